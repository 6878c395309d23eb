/** Promise 6: the text of the instruction at an address, if it is whole. */
public final class Promise6AtTest {
    public static void main(String[] args) {
        lowerByteFirst();
        halfOrWord();
        anywhere();
        lastWholeOnes();
        notWhole();
        notWholeBeforeAnyText();
        outside();
        Check.finish();
    }

    private static void lowerByteFirst() {
        Check.sentence("the half there (the lower byte first)");
        InstructionReader x = new InstructionReader();
        x.poke(10, 0x82);
        x.poke(11, 0x80);
        Check.same("at(10)", x.at(10), 2);
        Check.same("at(10)", Check.text(x), "c.jr ra");
        Check.pokeBits(x, 20, 0x12345037, 4);
        Check.same("at(20)", x.at(20), 4);
        Check.same("at(20)", Check.text(x), "lui zero, 74565");
    }

    private static void halfOrWord() {
        Check.sentence("or, if its lowest bits are 11, the word");
        int[] lowest = {0, 1, 2, 3};
        String[] due = {"c.lw s0, 0(s0)", "c.li zero, 0", ".half 16386", "lbu zero, 0(zero)"};
        for (int low : lowest) {
            InstructionReader x = new InstructionReader();
            Check.pokeBits(x, 6, 0x4000 | low, 2);
            Check.same("at(6) with " + low, x.at(6), low == 3 ? 4 : 2);
            Check.same("at(6) with " + low, Check.text(x), due[low]);
        }
    }

    private static void anywhere() {
        Check.sentence("The text is that of the instruction at an address: how many bytes it has");
        int[] addresses = {0, 1, 2, 3, 7, 128, 251, 252};
        for (int address : addresses) {
            InstructionReader x = new InstructionReader();
            Check.pokeBits(x, address, 0xfeb50fe3, 4);
            Check.same("at(" + address + ")", x.at(address), 4);
            Check.same("word at " + address, Check.text(x), "beq a0, a1, .-2");
            Check.pokeBits(x, address, 0x8082, 2);
            Check.same("at(" + address + ")", x.at(address), 2);
            Check.same("half at " + address, Check.text(x), "c.jr ra");
            Check.same("about(1)", x.about(1), 2);
        }
    }

    private static void lastWholeOnes() {
        Check.sentence("0 when it is not whole in the stretch: these just are");
        InstructionReader x = new InstructionReader();
        x.poke(253, 1);
        Check.same("at(253)", x.at(253), 2);
        Check.same("at(253)", Check.text(x), "c.nop");
        x.poke(254, 1);
        Check.same("at(254)", x.at(254), 2);
        Check.same("at(254)", Check.text(x), "c.nop");
        Check.pokeBits(x, 251, 0x7ff58513, 4);
        Check.same("at(251)", x.at(251), 4);
        Check.same("at(251)", Check.text(x), "addi a0, a1, 2047");
        Check.pokeBits(x, 252, -1, 4);
        Check.same("at(252)", x.at(252), 4);
        Check.same("at(252)", Check.text(x), ".word 4294967295");
    }

    private static void notWhole() {
        Check.sentence("0, changing nothing, when it is not whole in the stretch");
        InstructionReader x = new InstructionReader();
        x.read(1048691);
        int[] cut = {253, 254, 255};
        for (int address : cut) {
            x.poke(address, 3);
            staysAt(x, address);
            x.poke(address, 0);
        }
        staysAt(x, 255);
        Check.same("numbers(0) after all", x.numbers(0), 128);
        x.poke(255, 1);
        staysAt(x, 255);
    }

    private static void staysAt(InstructionReader x, int address) {
        Check.same("at(" + address + ") of one cut off", x.at(address), 0);
        Check.same("text that stays", Check.text(x), "ebreak");
        Check.same("about(1) that stays", x.about(1), 4);
        Check.same("about(2) that stays", x.about(2), 1);
        Check.same("about(3) that stays", x.about(3), 0);
    }

    private static void notWholeBeforeAnyText() {
        Check.sentence("0, changing nothing, when it is not whole: there is still no text");
        InstructionReader x = new InstructionReader();
        Check.same("at(255)", x.at(255), 0);
        for (int what = 0; what <= 3; what++) {
            Check.same("about(" + what + ")", x.about(what), 0);
        }
        Check.failsOutside("letter(0)", () -> x.letter(0));
    }

    private static void outside() {
        Check.sentence("IndexOutOfBoundsException when address is not 0 .. 255");
        InstructionReader x = new InstructionReader();
        x.read(115);
        int[] wrong = {-1, 256, Integer.MIN_VALUE, Integer.MAX_VALUE, -2, 258};
        for (int address : wrong) {
            Check.failsOutside("at(" + address + ")", () -> x.at(address));
        }
        Check.same("text after refused calls", Check.text(x), "ecall");
    }
}
