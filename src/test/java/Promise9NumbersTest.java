/** Promise 9: how many whole ones are numbers. */
public final class Promise9NumbersTest {
    public static void main(String[] args) {
        allOrNone();
        linesAreNotCounted();
        wholeOnes();
        outside();
        leavesTheTextAlone();
        Check.finish();
    }

    private static void allOrNone() {
        Check.sentence("Going so from an address on: how many instructions are no such lines");
        InstructionReader x = new InstructionReader();
        Check.same("numbers(0) of nothing but 0", x.numbers(0), 128);
        Check.same("numbers(1) of nothing but 0", x.numbers(1), 127);
        Check.same("numbers(253)", x.numbers(253), 1);
        Check.same("numbers(254)", x.numbers(254), 1);
        Check.same("numbers(255)", x.numbers(255), 0);
        InstructionReader y = new InstructionReader();
        for (int address = 0; address < 256; address++) {
            y.poke(address, 1);
        }
        Check.same("numbers(0) of nothing but lines", y.numbers(0), 0);
        for (int address = 0; address < 250; address++) {
            y.poke(address, 255);
        }
        Check.same("numbers(0) of words and lines", y.numbers(0), 62 + 1);
    }

    private static void linesAreNotCounted() {
        Check.sentence("are no such lines, but numbers");
        InstructionReader x = new InstructionReader();
        x.poke(0, 19);
        Check.same("numbers(0) with a line of four bytes", x.numbers(0), 126);
        Check.same("numbers(2) from inside it", x.numbers(2), 127);
        x.poke(0, 7);
        Check.same("numbers(0) with a number of four bytes", x.numbers(0), 127);
        x.poke(4, 1);
        Check.same("numbers(0) with a line of two bytes", x.numbers(0), 126);
        Check.same("numbers(6)", x.numbers(6), 125);
    }

    private static void wholeOnes() {
        Check.sentence("how many instructions (whole ones)");
        InstructionReader x = new InstructionReader();
        x.poke(254, 3);
        Check.same("numbers(250) without a line cut off", x.numbers(250), 2);
        x.poke(254, 7);
        Check.same("numbers(250) without a number cut off", x.numbers(250), 2);
        Check.same("numbers(254) of a number cut off", x.numbers(254), 0);
        x.poke(253, 7);
        Check.same("numbers(253) of a number cut off", x.numbers(253), 0);
        x.poke(252, 7);
        Check.same("numbers(252) of a number that just is whole", x.numbers(252), 1);
        x.poke(255, 7);
        Check.same("numbers(255)", x.numbers(255), 0);
    }

    private static void outside() {
        Check.sentence("IndexOutOfBoundsException when address is not 0 .. 255");
        InstructionReader x = new InstructionReader();
        int[] wrong = {-1, 256, 257, Integer.MIN_VALUE, Integer.MAX_VALUE};
        for (int address : wrong) {
            Check.failsOutside("numbers(" + address + ")", () -> x.numbers(address));
        }
    }

    private static void leavesTheTextAlone() {
        Check.sentence("how many instructions are numbers: nothing changes");
        InstructionReader x = new InstructionReader();
        x.numbers(0);
        Check.same("about(1) after numbers", x.about(1), 0);
        x.read(1);
        x.numbers(0);
        Check.same("text after numbers", Check.text(x), "c.nop");
    }
}
