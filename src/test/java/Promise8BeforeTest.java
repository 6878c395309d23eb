/** Promise 8: the last instruction that begins below an address. */
public final class Promise8BeforeTest {
    private static final int[] WRONG = {-1, 256, 257, Integer.MIN_VALUE, Integer.MAX_VALUE};

    public static void main(String[] args) {
        lastBelow();
        notAbove();
        theEnd();
        oneThatIsCutOff();
        outside();
        leavesTheTextAlone();
        Check.finish();
    }

    private static void lastBelow() {
        Check.sentence("Going so from an address on: the last one that begins below another address");
        InstructionReader x = new InstructionReader();
        x.poke(0, 3);
        x.poke(6, 7);
        int[] due = {-1, 0, 0, 0, 0, 4, 4, 6, 6, 6, 6, 10, 10, 12};
        for (int address = 0; address < due.length; address++) {
            Check.same("before(0, " + address + ")", x.before(0, address), due[address]);
        }
        Check.same("before(2, 6) from inside a word", x.before(2, 6), 4);
        Check.same("before(1, 9)", x.before(1, 9), 7);
        Check.same("before(9, 10)", x.before(9, 10), 9);
    }

    private static void notAbove() {
        Check.sentence("NONE when that is not above it");
        InstructionReader x = new InstructionReader();
        int[][] both = {{0, 0}, {9, 9}, {9, 8}, {254, 254}, {254, 0}, {255, 255}, {255, 254}, {255, 0}};
        for (int[] one : both) {
            Check.same("before(" + one[0] + ", " + one[1] + ")", x.before(one[0], one[1]), -1);
        }
    }

    private static void theEnd() {
        Check.sentence("Going so: one begins where two bytes are there at least");
        InstructionReader x = new InstructionReader();
        Check.same("before(0, 254)", x.before(0, 254), 252);
        Check.same("before(0, 255)", x.before(0, 255), 254);
        Check.same("before(1, 255)", x.before(1, 255), 253);
        Check.same("before(253, 255)", x.before(253, 255), 253);
        Check.same("before(254, 255)", x.before(254, 255), 254);
    }

    private static void oneThatIsCutOff() {
        Check.sentence("the last one that begins: also one that is not whole");
        InstructionReader x = new InstructionReader();
        x.poke(254, 3);
        Check.same("before(0, 255)", x.before(0, 255), 254);
        Check.same("before(254, 255)", x.before(254, 255), 254);
        x.poke(253, 3);
        Check.same("before(1, 255)", x.before(1, 255), 253);
        x.poke(251, 3);
        Check.same("before(251, 255)", x.before(251, 255), 251);
    }

    private static void outside() {
        Check.sentence("IndexOutOfBoundsException when one of both is not 0 .. 255");
        InstructionReader x = new InstructionReader();
        for (int wrong : WRONG) {
            for (int right : new int[] {0, 5, 255}) {
                Check.failsOutside("before(" + wrong + ", " + right + ")", () -> x.before(wrong, right));
                Check.failsOutside("before(" + right + ", " + wrong + ")", () -> x.before(right, wrong));
            }
            Check.failsOutside("before(" + wrong + ", same)", () -> x.before(wrong, wrong));
        }
    }

    private static void leavesTheTextAlone() {
        Check.sentence("the last one that begins below another address: nothing changes");
        InstructionReader x = new InstructionReader();
        x.read(115);
        x.before(0, 100);
        Check.same("text after before", Check.text(x), "ecall");
        Check.same("numbers(0) after before", x.numbers(0), 128);
    }
}
