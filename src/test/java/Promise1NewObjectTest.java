/** Promise 1: no text; a stretch of 0. */
public final class Promise1NewObjectTest {
    public static void main(String[] args) {
        InstructionReader x = new InstructionReader();
        Check.same("NONE", InstructionReader.NONE, -1);
        for (int what = 0; what <= 3; what++) {
            Check.same("about(" + what + ") of a new one", x.about(what), 0);
        }
        Check.failsOutside("letter(0) of a new one", () -> x.letter(0));
        Check.same("numbers(0) of a new one", x.numbers(0), 128);
        Check.same("next(0, 127) of a new one", x.next(0, 127), 254);
        for (int address = 0; address < 255; address++) {
            InstructionReader y = new InstructionReader();
            Check.same("at(" + address + ") of a new one", y.at(address), 2);
            Check.same("at(" + address + ") of a new one", Check.text(y), ".half 0");
        }
        twoAreApart();
        Check.finish();
    }

    private static void twoAreApart() {
        InstructionReader x = new InstructionReader();
        InstructionReader y = new InstructionReader();
        x.poke(0, 1);
        x.read(19);
        Check.same("about(0) of another", y.about(0), 0);
        y.at(0);
        Check.same("text of another", Check.text(y), ".half 0");
        Check.same("text of the first", Check.text(x), "addi zero, zero, 0");
    }
}
