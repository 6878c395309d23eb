/** Promise 5: a byte becomes the lowest eight bits. */
public final class Promise5PokeTest {
    private static final int[] WRONG = {-1, 256, 257, -256, 512, Integer.MIN_VALUE, Integer.MAX_VALUE};

    public static void main(String[] args) {
        lowestEightBits();
        firstAndLastByte();
        outside();
        outsideChangesNothing();
        leavesTheTextAlone();
        everyByteIsItsOwn();
        Check.finish();
    }

    private static void lowestEightBits() {
        Check.sentence("A byte of the stretch becomes the lowest eight bits of v");
        int[] values = {0, 1, 127, 128, 255, 256, 257, 511, -1, -128, -129, -256, -257,
            Integer.MIN_VALUE, Integer.MAX_VALUE};
        for (int v : values) {
            becomes(0, v);
            becomes(101, v);
            becomes(254, v);
        }
    }

    /** Above a byte of 0 the half is short, whatever the byte becomes. */
    private static void becomes(int address, int v) {
        InstructionReader x = new InstructionReader();
        x.poke(address + 1, ~v);
        x.poke(address + 1, v);
        Check.same("at(" + address + ")", x.at(address), 2);
        Check.same("at(" + address + ") after poke of " + v, Check.text(x), Due.of((v & 255) << 8).text());
    }

    private static void firstAndLastByte() {
        Check.sentence("IndexOutOfBoundsException when address is not 0 .. 255: not for these");
        InstructionReader x = new InstructionReader();
        x.poke(0, 1);
        x.poke(254, 2);
        x.poke(255, 144);
        x.at(0);
        Check.same("at(0)", Check.text(x), "c.nop");
        x.at(254);
        Check.same("at(254)", Check.text(x), "c.ebreak");
    }

    private static void outside() {
        Check.sentence("IndexOutOfBoundsException when address is not 0 .. 255");
        InstructionReader x = new InstructionReader();
        for (int address : WRONG) {
            Check.failsOutside("poke(" + address + ", 3)", () -> x.poke(address, 3));
        }
    }

    /** A byte of 1 at an even address is a line, so that none hides among numbers. */
    private static void outsideChangesNothing() {
        Check.sentence("IndexOutOfBoundsException when address is not 0 .. 255: no byte changes");
        InstructionReader x = new InstructionReader();
        for (int address : WRONG) {
            Check.failsOutside("poke(" + address + ", 1)", () -> x.poke(address, 1));
        }
        Check.same("numbers(0)", x.numbers(0), 128);
        Check.same("numbers(1)", x.numbers(1), 127);
        x.at(254);
        Check.same("at(254)", Check.text(x), ".half 0");
    }

    private static void leavesTheTextAlone() {
        Check.sentence("A byte of the stretch becomes ..: the text stays");
        InstructionReader x = new InstructionReader();
        Check.pokeBits(x, 0, 115, 4);
        x.at(0);
        x.poke(0, 1);
        Check.same("text after poke", Check.text(x), "ecall");
        Check.same("about(1) after poke", x.about(1), 4);
    }

    private static void everyByteIsItsOwn() {
        Check.sentence("A byte of the stretch becomes ..: that one alone");
        for (int address = 0; address < 255; address++) {
            InstructionReader x = new InstructionReader();
            for (int other = 0; other < 256; other++) {
                x.poke(other, other * 7 + 3 << 2);
            }
            int half = (address * 7 + 3 << 2 & 255) | (address * 7 + 10 << 2 & 255) << 8;
            Check.same("at(" + address + ")", x.at(address), 2);
            Check.same("at(" + address + ")", Check.text(x), Due.of(half).text());
        }
    }
}
