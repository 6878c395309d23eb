/** Promise 7: forwards from one instruction to the next. */
public final class Promise7NextTest {
    private static final int[] WRONG = {-1, 256, 257, Integer.MIN_VALUE, Integer.MAX_VALUE};
    private static final int[] NEGATIVE = {-1, -2, Integer.MIN_VALUE};

    public static void main(String[] args) {
        itself();
        ofShortOnes();
        mixed();
        stretchEnds();
        oneThatIsCutOff();
        at255();
        wrongAddress();
        wrongNumber();
        leavesTheTextAlone();
        Check.finish();
    }

    private static void itself() {
        Check.sentence("n 0: itself");
        InstructionReader x = new InstructionReader();
        x.poke(7, 3);
        int[] addresses = {0, 1, 7, 253, 254};
        for (int address : addresses) {
            Check.same("next(" + address + ", 0)", x.next(address, 0), address);
        }
    }

    private static void ofShortOnes() {
        Check.sentence("the address at which the n-th behind it begins");
        InstructionReader x = new InstructionReader();
        Check.same("next(0, 1)", x.next(0, 1), 2);
        Check.same("next(0, 2)", x.next(0, 2), 4);
        Check.same("next(1, 1)", x.next(1, 1), 3);
        Check.same("next(0, 127)", x.next(0, 127), 254);
        Check.same("next(1, 126)", x.next(1, 126), 253);
    }

    private static void mixed() {
        Check.sentence("Going from an address on from one instruction to the next");
        InstructionReader x = new InstructionReader();
        x.poke(0, 3);
        x.poke(6, 255);
        Check.same("next(0, 1)", x.next(0, 1), 4);
        Check.same("next(0, 2)", x.next(0, 2), 6);
        Check.same("next(0, 3)", x.next(0, 3), 10);
        Check.same("next(2, 2)", x.next(2, 2), 6);
        Check.same("next(5, 1)", x.next(5, 1), 7);
        x.poke(6, 254);
        Check.same("next(0, 3)", x.next(0, 3), 8);
    }

    private static void stretchEnds() {
        Check.sentence("NONE when the stretch ends before");
        InstructionReader x = new InstructionReader();
        Check.same("next(0, 128)", x.next(0, 128), -1);
        Check.same("next(1, 127)", x.next(1, 127), -1);
        Check.same("next(254, 1)", x.next(254, 1), -1);
        Check.same("next(253, 1)", x.next(253, 1), -1);
        Check.same("next(0, greatest)", x.next(0, Integer.MAX_VALUE), -1);
        x.poke(252, 3);
        Check.same("next(252, 1) over a whole word", x.next(252, 1), -1);
        x.poke(251, 3);
        Check.same("next(251, 1) to the last byte", x.next(251, 1), -1);
        x.poke(250, 3);
        Check.same("next(250, 1) to the last half", x.next(250, 1), 254);
        Check.same("next(250, 2)", x.next(250, 2), -1);
    }

    private static void oneThatIsCutOff() {
        Check.sentence("one begins where two bytes are there at least");
        InstructionReader x = new InstructionReader();
        x.poke(254, 3);
        Check.same("next(252, 1) to one that is cut off", x.next(252, 1), 254);
        Check.same("next(254, 0) of one that is cut off", x.next(254, 0), 254);
        Check.same("next(254, 1) of one that is cut off", x.next(254, 1), -1);
        x.poke(253, 3);
        Check.same("next(251, 1) to one that is cut off", x.next(251, 1), 253);
        Check.same("next(253, 0) of one that is cut off", x.next(253, 0), 253);
        Check.same("next(251, 2) of one that is cut off", x.next(251, 2), -1);
    }

    private static void at255() {
        Check.sentence("so also for n 0 at 255");
        InstructionReader x = new InstructionReader();
        Check.same("next(255, 0)", x.next(255, 0), -1);
        Check.same("next(255, 1)", x.next(255, 1), -1);
        Check.same("next(255, greatest)", x.next(255, Integer.MAX_VALUE), -1);
        x.poke(255, 3);
        Check.same("next(255, 0) with a long one", x.next(255, 0), -1);
    }

    private static void wrongAddress() {
        Check.sentence("IndexOutOfBoundsException when address is not 0 .. 255; else ..");
        InstructionReader x = new InstructionReader();
        for (int address : WRONG) {
            Check.failsOutside("next(" + address + ", 0)", () -> x.next(address, 0));
            Check.failsOutside("next(" + address + ", 1)", () -> x.next(address, 1));
            for (int n : NEGATIVE) {
                Check.failsOutside("next(" + address + ", " + n + ")", () -> x.next(address, n));
            }
        }
    }

    private static void wrongNumber() {
        Check.sentence("else IllegalArgumentException when n is below 0");
        InstructionReader x = new InstructionReader();
        int[] addresses = {0, 1, 254, 255};
        for (int address : addresses) {
            for (int n : NEGATIVE) {
                Check.fails("next(" + address + ", " + n + ")", IllegalArgumentException.class,
                        () -> x.next(address, n));
            }
        }
    }

    private static void leavesTheTextAlone() {
        Check.sentence("the address at which the n-th behind it begins: nothing changes");
        InstructionReader x = new InstructionReader();
        x.read(115);
        x.next(0, 5);
        x.next(255, 0);
        Check.failsOutside("next(256, 0)", () -> x.next(256, 0));
        Check.same("text after next", Check.text(x), "ecall");
        Check.same("numbers(0) after next", x.numbers(0), 128);
    }
}
