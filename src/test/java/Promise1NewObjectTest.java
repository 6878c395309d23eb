/** Promise 1: no text; a stretch of 0. */
public final class Promise1NewObjectTest {
    public static void main(String[] args) {
        Check.sentence("NONE = -1");
        Check.same("NONE", InstructionReader.NONE, -1);
        noText();
        stretchOfZero();
        twoAreApart();
        lastsFor512Calls();
        Check.finish();
    }

    private static void noText() {
        Check.sentence("No text");
        InstructionReader x = new InstructionReader();
        for (int what = 0; what <= 3; what++) {
            Check.same("about(" + what + ") of a new one", x.about(what), 0);
        }
        int[] wrong = {0, 1, -1, Integer.MIN_VALUE, Integer.MAX_VALUE};
        for (int k : wrong) {
            Check.failsOutside("letter(" + k + ") of a new one", () -> x.letter(k));
        }
    }

    private static void stretchOfZero() {
        Check.sentence("a stretch of 0; THE STRETCH has 256 bytes, 0 at first");
        InstructionReader x = new InstructionReader();
        Check.same("numbers(0) of a new one", x.numbers(0), 128);
        Check.same("next(0, 127) of a new one", x.next(0, 127), 254);
        for (int address = 0; address < 255; address++) {
            InstructionReader y = new InstructionReader();
            Check.same("at(" + address + ") of a new one", y.at(address), 2);
            Check.same("at(" + address + ") of a new one", Check.text(y), ".half 0");
        }
    }

    private static void twoAreApart() {
        Check.sentence("A new object: No text; a stretch of 0, whatever others hold");
        InstructionReader x = new InstructionReader();
        InstructionReader y = new InstructionReader();
        x.poke(0, 1);
        x.read(19);
        InstructionReader z = new InstructionReader();
        for (InstructionReader other : new InstructionReader[] {y, z}) {
            Check.same("about(0) of another", other.about(0), 0);
            other.at(0);
            Check.same("text of another", Check.text(other), ".half 0");
        }
        Check.same("text of the first", Check.text(x), "addi zero, zero, 0");
    }

    private static void lastsFor512Calls() {
        Check.sentence("An object is used for at most 512 calls");
        InstructionReader x = new InstructionReader();
        for (int address = 0; address < 256; address++) {
            x.poke(address, 255);
        }
        for (int i = 0; i < 250; i++) {
            int bits = i % 2 == 0 ? 0xc600202f : 0x8002;
            Check.same("read in call " + (257 + i), x.read(bits), i % 2 == 0 ? 33 : 11);
        }
        Check.same("about(0) in call 507", x.about(0), 11);
        Check.same("letter(10) in call 508", x.letter(10), '0');
        Check.same("next in call 509", x.next(0, 63), 252);
        Check.same("before in call 510", x.before(0, 255), 252);
        Check.same("numbers in call 511", x.numbers(0), 64);
        Check.same("at in call 512", x.at(252), 4);
    }
}
