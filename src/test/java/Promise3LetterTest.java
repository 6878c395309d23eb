/** Promise 3: the characters of the text, and none outside it. */
public final class Promise3LetterTest {
    public static void main(String[] args) {
        InstructionReader x = new InstructionReader();
        outside(x, 0);
        spells(x, 10682931, "add tp, t1, a0");
        spells(x, 1, "c.nop");
        spells(x, -1, ".word 4294967295");
        spells(x, 24 << 27 | 3 << 25 | 2 << 12 | 47, "amominu.w.aqrl zero, zero, (zero)");
        spells(x, 0, ".half 0");
        Check.finish();
    }

    private static void spells(InstructionReader x, int bits, String due) {
        x.read(bits);
        for (int k = 0; k < due.length(); k++) {
            Check.same("letter(" + k + ") of " + due, x.letter(k), due.charAt(k));
        }
        outside(x, due.length());
    }

    private static void outside(InstructionReader x, int size) {
        int[] wrong = {-1, size, size + 1, 39, 40, 41, 1000, Integer.MIN_VALUE, Integer.MAX_VALUE};
        for (int k : wrong) {
            Check.failsOutside("letter(" + k + ") of " + size, () -> x.letter(k));
        }
    }
}
