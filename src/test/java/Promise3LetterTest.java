/** Promise 3: the characters of the text, and none outside it. */
public final class Promise3LetterTest {
    public static void main(String[] args) {
        withoutText();
        firstToLast();
        oldLettersAreGone();
        afterAt();
        changesNothing();
        Check.finish();
    }

    private static void withoutText() {
        Check.sentence("IndexOutOfBoundsException when there is none: before any text");
        outside(new InstructionReader(), 0);
    }

    private static void firstToLast() {
        Check.sentence("Character k of the text. IndexOutOfBoundsException when there is none");
        InstructionReader x = new InstructionReader();
        spells(x, 10682931, "add tp, t1, a0");
        spells(x, -1, ".word 4294967295");
        spells(x, 0xfea12fa3, "sw a0, -1(sp)");
        spells(x, 0x800000ef, "jal ra, .-1048576");
        spells(x, 0xc600202f, "amominu.w.aqrl zero, zero, (zero)");
    }

    private static void oldLettersAreGone() {
        Check.sentence("IndexOutOfBoundsException when there is none: behind a shorter text");
        InstructionReader x = new InstructionReader();
        x.read(0xc600202f);
        spells(x, 1, "c.nop");
        for (int k = 5; k < 41; k++) {
            int old = k;
            Check.failsOutside("letter(" + k + ") of c.nop", () -> x.letter(old));
        }
    }

    private static void afterAt() {
        Check.sentence("Character k of the text, which at has made");
        InstructionReader x = new InstructionReader();
        x.at(0);
        Check.same("letter(6)", x.letter(6), '0');
        outside(x, 7);
    }

    private static void changesNothing() {
        Check.sentence("IndexOutOfBoundsException when there is none: the text stays");
        InstructionReader x = new InstructionReader();
        x.read(115);
        outside(x, 5);
        Check.same("text after refused calls", Check.text(x), "ecall");
        Check.same("text after being read", Check.text(x), "ecall");
    }

    private static void spells(InstructionReader x, int bits, String due) {
        x.read(bits);
        for (int k = 0; k < due.length(); k++) {
            Check.same("letter(" + k + ") of " + due, x.letter(k), due.charAt(k));
        }
        outside(x, due.length());
    }

    private static void outside(InstructionReader x, int size) {
        int[] wrong = {-1, size, size + 1, 39, 40, 41, 1000, Integer.MIN_VALUE, Integer.MAX_VALUE};
        for (int k : wrong) {
            Check.failsOutside("letter(" + k + ") of " + size, () -> x.letter(k));
        }
    }
}
