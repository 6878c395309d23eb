/** Promise 2: how long the text is, and that each one takes the place of the one before. */
public final class Promise2ReadTest {
    public static void main(String[] args) {
        howLong();
        takesThePlaceOfTheOneBefore();
        leavesTheStretchAlone();
        Check.finish();
    }

    private static void howLong() {
        Check.sentence("The text is that of these bits: how long it is");
        InstructionReader x = new InstructionReader();
        Check.same("read of one of the shortest", x.read(1), 5);
        Check.same("read of one of the shortest", x.read(115), 5);
        Check.same("read of one of the longest", x.read(0xc600202f), 33);
        Check.same("read of the shortest half", x.read(0), 7);
        Check.same("read of the longest half", x.read(0xfffe), 11);
        Check.same("read of the shortest word", x.read(7), 7);
        Check.same("read of the longest word", x.read(-1), 16);
        Check.same("read of the greatest number", x.read(Integer.MAX_VALUE), 16);
        Check.same("read of the least number", x.read(Integer.MIN_VALUE), 7);
    }

    private static void takesThePlaceOfTheOneBefore() {
        Check.sentence("The text is that of these bits");
        InstructionReader x = new InstructionReader();
        int[] bits = {0xc600202f, 1, -1, 115, 0, 0xe600202f};
        String[] due = {"amominu.w.aqrl zero, zero, (zero)", "c.nop", ".word 4294967295", "ecall",
            ".half 0", "amomaxu.w.aqrl zero, zero, (zero)"};
        for (int i = 0; i < bits.length; i++) {
            Check.same("read(" + bits[i] + ")", x.read(bits[i]), due[i].length());
            Check.same("text of " + bits[i], Check.text(x), due[i]);
        }
    }

    private static void leavesTheStretchAlone() {
        Check.sentence("The text is that of these bits: nothing else changes");
        InstructionReader x = new InstructionReader();
        x.read(-1);
        Check.same("numbers(0) after read", x.numbers(0), 128);
        x.at(0);
        Check.same("at(0) after read", Check.text(x), ".half 0");
    }
}
