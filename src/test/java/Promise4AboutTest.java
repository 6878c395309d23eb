/** Promise 4: what there is to know about the latest text, and NONE for all else. */
public final class Promise4AboutTest {
    public static void main(String[] args) {
        beforeAny();
        howLong();
        howManyBytes();
        whetherAnInstruction();
        howManyOperands();
        ofTheLatest();
        noneForOthers();
        Check.finish();
    }

    private static void beforeAny() {
        Check.sentence("1 how many bytes its bits have (0 before any)");
        InstructionReader x = new InstructionReader();
        is(x, 0, 0, 0, 0);
        x.poke(0, 19);
        x.next(0, 1);
        x.before(0, 9);
        x.numbers(0);
        x.at(255);
        Check.failsOutside("at(-1)", () -> x.at(-1));
        is(x, 0, 0, 0, 0);
    }

    private static void howLong() {
        Check.sentence("what = 0 how long it is");
        Check.same("about(0)", after(1).about(0), 5);
        Check.same("about(0)", after(0xc600202f).about(0), 33);
        Check.same("about(0)", after(0).about(0), 7);
    }

    private static void howManyBytes() {
        Check.sentence("1 how many bytes its bits have");
        Check.same("about(1) of a word", after(3).about(1), 4);
        Check.same("about(1) of a number of a word", after(-1).about(1), 4);
        Check.same("about(1) of a half", after(0x00030001).about(1), 2);
        Check.same("about(1) of a number of a half", after(0xfffffffe).about(1), 2);
        Check.same("about(1) of a number of a half", after(0).about(1), 2);
    }

    private static void whetherAnInstruction() {
        Check.sentence("2 whether it is an instruction (1 or 0)");
        Check.same("about(2) of a line", after(3).about(2), 1);
        Check.same("about(2) of a word", after(7).about(2), 0);
        Check.same("about(2) of a short line", after(1).about(2), 1);
        Check.same("about(2) of a half", after(0).about(2), 0);
    }

    private static void howManyOperands() {
        Check.sentence("3 how many operands (1 of a number)");
        Check.same("about(3) of ecall", after(115).about(3), 0);
        Check.same("about(3) of c.nop", after(1).about(3), 0);
        Check.same("about(3) of c.j", after(0xa001).about(3), 1);
        Check.same("about(3) of rdcycle", after(0xc0002573).about(3), 1);
        Check.same("about(3) of lw", after(8195).about(3), 2);
        Check.same("about(3) of sw", after(0x00a12023).about(3), 2);
        Check.same("about(3) of c.lw", after(0x4000).about(3), 2);
        Check.same("about(3) of lr.w", after(0x1006252f).about(3), 2);
        Check.same("about(3) of sc.w", after(0x18b6252f).about(3), 3);
        Check.same("about(3) of add", after(51).about(3), 3);
        Check.same("about(3) of beq", after(99).about(3), 3);
        Check.same("about(3) of a word", after(7).about(3), 1);
        Check.same("about(3) of a half", after(0).about(3), 1);
    }

    private static void ofTheLatest() {
        Check.sentence("Of the latest text");
        InstructionReader x = new InstructionReader();
        x.read(19);
        is(x, 18, 4, 1, 3);
        x.read(0);
        is(x, 7, 2, 0, 1);
        Check.pokeBits(x, 8, 115, 4);
        x.at(8);
        is(x, 5, 4, 1, 0);
        unchangedByOthers(x);
    }

    private static void unchangedByOthers(InstructionReader x) {
        x.poke(8, 0);
        x.numbers(0);
        x.next(0, 3);
        x.before(0, 100);
        x.at(255);
        Check.failsOutside("at(256)", () -> x.at(256));
        Check.failsOutside("letter(5)", () -> x.letter(5));
        is(x, 5, 4, 1, 0);
        Check.same("text that stays", Check.text(x), "ecall");
    }

    private static void noneForOthers() {
        Check.sentence("NONE for others");
        int[] others = {-1, 4, 5, -2, 256, Integer.MIN_VALUE, Integer.MAX_VALUE};
        for (InstructionReader x : new InstructionReader[] {new InstructionReader(), after(19), after(0)}) {
            for (int what : others) {
                Check.same("about(" + what + ")", x.about(what), -1);
            }
        }
    }

    private static InstructionReader after(int bits) {
        InstructionReader x = new InstructionReader();
        x.read(bits);
        return x;
    }

    private static void is(InstructionReader x, int size, int bytes, int instruction, int operands) {
        String of = " of a text of " + size;
        Check.same("about(0)" + of, x.about(0), size);
        Check.same("about(1)" + of, x.about(1), bytes);
        Check.same("about(2)" + of, x.about(2), instruction);
        Check.same("about(3)" + of, x.about(3), operands);
    }
}
