/** Promise 4: what there is to know about the latest text, and NONE for all else. */
public final class Promise4AboutTest {
    public static void main(String[] args) {
        InstructionReader x = new InstructionReader();
        is(x, 0, 0, 0, 0);
        x.read(19);
        is(x, 18, 4, 1, 3);
        x.read(8195);
        is(x, "lw zero, 0(zero)".length(), 4, 1, 2);
        x.read(7);
        is(x, 7, 4, 0, 1);
        x.read(1);
        is(x, 5, 2, 1, 0);
        x.read(0);
        is(x, 7, 2, 0, 1);
        x.read(0xa001);
        is(x, 7, 2, 1, 1);
        Check.pokeBits(x, 8, 115, 4);
        x.at(8);
        is(x, 5, 4, 1, 0);
        unchangedByOthers(x);
        Check.finish();
    }

    private static void unchangedByOthers(InstructionReader x) {
        x.poke(8, 0);
        x.numbers(0);
        x.next(0, 3);
        x.before(0, 100);
        x.at(255);
        Check.failsOutside("at(256)", () -> x.at(256));
        Check.failsOutside("letter(5)", () -> x.letter(5));
        is(x, 5, 4, 1, 0);
        Check.same("text that stays", Check.text(x), "ecall");
    }

    private static void is(InstructionReader x, int size, int bytes, int instruction, int operands) {
        String of = " of a text of " + size;
        Check.same("about(0)" + of, x.about(0), size);
        Check.same("about(1)" + of, x.about(1), bytes);
        Check.same("about(2)" + of, x.about(2), instruction);
        Check.same("about(3)" + of, x.about(3), operands);
        int[] others = {-1, 4, 5, Integer.MIN_VALUE, Integer.MAX_VALUE};
        for (int what : others) {
            Check.same("about(" + what + ")", x.about(what), InstructionReader.NONE);
        }
    }
}
