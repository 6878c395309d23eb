/** All promises together: runs of 512 calls of every kind, with right and wrong inputs. */
public final class RunsTest {
    private static final int[] EDGES = {-1, 0, 1, 2, 3, 4, 5, 39, 40, 127, 128, 250, 251, 252, 253, 254,
        255, 256, 257, Integer.MIN_VALUE, Integer.MAX_VALUE};
    private static final Dice DICE = new Dice(512);

    public static void main(String[] args) {
        for (int run = 0; run < 400; run++) {
            InstructionReader x = new InstructionReader();
            Model due = new Model();
            for (int call = 0; call < 512; call++) {
                anyCall(x, due, run);
            }
        }
        Check.finish();
    }

    private static void anyCall(InstructionReader x, Model due, int run) {
        int i = edgeOr(256);
        int k = edgeOr(20);
        switch (DICE.below(run % 2 == 0 ? 8 : 14)) {
            case 0 -> read(x, due, bits(run));
            case 1 -> same("letter(" + k + ")", () -> x.letter(k), () -> due.letter(k));
            case 2 -> same("about(" + k + ")", () -> x.about(k), () -> due.about(k));
            case 3 -> same("at(" + i + ")", () -> x.at(i), () -> due.at(i));
            case 4 -> same("next(" + i + ", " + k + ")", () -> x.next(i, k), () -> due.next(i, k));
            case 5 -> before(x, due, i, edgeOr(256));
            case 6 -> same("numbers(" + i + ")", () -> x.numbers(i), () -> due.numbers(i));
            default -> poke(x, due, i, bits(run));
        }
    }

    private static void read(InstructionReader x, Model due, int bits) {
        same("read(" + bits + ")", () -> x.read(bits), () -> due.read(bits));
    }

    private static void before(InstructionReader x, Model due, int from, int address) {
        same("before(" + from + ", " + address + ")", () -> x.before(from, address),
                () -> due.before(from, address));
    }

    private static void poke(InstructionReader x, Model due, int address, int v) {
        same("poke(" + address + ", " + v + ")", () -> pokeAnd0(x, address, v), () -> {
            due.poke(address, v);
            return 0;
        });
    }

    private static long pokeAnd0(InstructionReader x, int address, int v) {
        x.poke(address, v);
        return 0;
    }

    private static void same(String call, Check.Asked got, Check.Asked due) {
        Check.same(call, Check.answer(got), Check.answer(due));
    }

    private static int edgeOr(int limit) {
        return DICE.below(4) == 0 ? EDGES[DICE.below(EDGES.length)] : DICE.below(limit);
    }

    /** Some runs hold many long ones, some few, some lines rather than numbers. */
    private static int bits(int run) {
        int any = DICE.bits();
        return switch (run % 4) {
            case 0 -> any;
            case 1 -> any | 3;
            case 2 -> any & ~1;
            default -> any & 0x01f0ffff & ~76 | 19;
        };
    }
}
