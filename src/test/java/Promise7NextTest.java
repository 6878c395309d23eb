/** Promise 7: forwards from one instruction to the next. */
public final class Promise7NextTest {
    public static void main(String[] args) {
        ofShortOnes();
        mixed();
        theEnd();
        wrongInputs();
        Check.finish();
    }

    private static void ofShortOnes() {
        InstructionReader x = new InstructionReader();
        Check.same("next(0, 0)", x.next(0, 0), 0);
        Check.same("next(0, 1)", x.next(0, 1), 2);
        Check.same("next(0, 127)", x.next(0, 127), 254);
        Check.same("next(0, 128)", x.next(0, 128), -1);
        Check.same("next(1, 0)", x.next(1, 0), 1);
        Check.same("next(1, 126)", x.next(1, 126), 253);
        Check.same("next(1, 127)", x.next(1, 127), -1);
        Check.same("next(254, 0)", x.next(254, 0), 254);
        Check.same("next(254, 1)", x.next(254, 1), -1);
        Check.same("next(255, 0)", x.next(255, 0), -1);
        Check.same("next(255, 1)", x.next(255, 1), -1);
        Check.same("next(0, greatest)", x.next(0, Integer.MAX_VALUE), -1);
    }

    private static void mixed() {
        InstructionReader x = new InstructionReader();
        x.poke(0, 3);
        x.poke(6, 255);
        Check.same("next(0, 1)", x.next(0, 1), 4);
        Check.same("next(0, 2)", x.next(0, 2), 6);
        Check.same("next(0, 3)", x.next(0, 3), 10);
        Check.same("next(2, 2)", x.next(2, 2), 6);
        Check.same("next(5, 1)", x.next(5, 1), 7);
        x.poke(6, 254);
        Check.same("next(0, 3)", x.next(0, 3), 8);
    }

    private static void theEnd() {
        InstructionReader x = new InstructionReader();
        x.poke(254, 3);
        Check.same("next(252, 1) to one that is cut off", x.next(252, 1), 254);
        Check.same("next(254, 0) of one that is cut off", x.next(254, 0), 254);
        Check.same("next(254, 1) of one that is cut off", x.next(254, 1), -1);
        x.poke(253, 3);
        Check.same("next(251, 1)", x.next(251, 1), 253);
        Check.same("next(251, 2)", x.next(251, 2), -1);
        x.poke(251, 3);
        Check.same("next(251, 1) to the last byte", x.next(251, 1), -1);
    }

    private static void wrongInputs() {
        InstructionReader x = new InstructionReader();
        int[] wrong = {-1, 256, Integer.MIN_VALUE, Integer.MAX_VALUE};
        for (int address : wrong) {
            Check.failsOutside("next(" + address + ", 0)", () -> x.next(address, 0));
            Check.failsOutside("next(" + address + ", -1)", () -> x.next(address, -1));
        }
        int[] negative = {-1, Integer.MIN_VALUE};
        for (int n : negative) {
            Check.fails("next(0, " + n + ")", IllegalArgumentException.class, () -> x.next(0, n));
            Check.fails("next(255, " + n + ")", IllegalArgumentException.class, () -> x.next(255, n));
        }
    }
}
