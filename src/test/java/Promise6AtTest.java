/** Promise 6: the text of the instruction at an address, if it is whole. */
public final class Promise6AtTest {
    public static void main(String[] args) {
        anywhere();
        theEnd();
        outside();
        Check.finish();
    }

    private static void anywhere() {
        int[] addresses = {0, 1, 2, 3, 7, 128, 251, 252};
        for (int address : addresses) {
            InstructionReader x = new InstructionReader();
            Check.pokeBits(x, address, 0xfe9417e3, 4);
            Check.same("at(" + address + ")", x.at(address), 4);
            InstructionReader y = new InstructionReader();
            y.read(0xfe9417e3);
            Check.same("word at " + address, Check.text(x), Check.text(y));
            Check.pokeBits(x, address, 0x8082, 2);
            Check.same("at(" + address + ")", x.at(address), 2);
            Check.same("half at " + address, Check.text(x), "c.jr ra");
            Check.same("about(1)", x.about(1), 2);
        }
    }

    private static void theEnd() {
        InstructionReader x = new InstructionReader();
        x.read(1048691);
        int[] cut = {253, 254, 255};
        for (int address : cut) {
            x.poke(address, 3);
            Check.same("at(" + address + ") cut off", x.at(address), 0);
            Check.same("text that stays", Check.text(x), "ebreak");
            Check.same("about(1) that stays", x.about(1), 4);
            Check.same("about(2) that stays", x.about(2), 1);
            Check.same("about(3) that stays", x.about(3), 0);
            x.poke(address, 0);
        }
        Check.same("at(255) with a short one", x.at(255), 0);
        Check.same("text that stays", Check.text(x), "ebreak");
        x.poke(254, 1);
        Check.same("at(254)", x.at(254), 2);
        Check.same("at(254)", Check.text(x), "c.nop");
        Check.pokeBits(x, 252, -1, 4);
        Check.same("at(252)", x.at(252), 4);
        Check.same("at(252)", Check.text(x), ".word 4294967295");
    }

    private static void outside() {
        InstructionReader x = new InstructionReader();
        int[] wrong = {-1, 256, Integer.MIN_VALUE, Integer.MAX_VALUE, -2, 258};
        for (int address : wrong) {
            Check.failsOutside("at(" + address + ")", () -> x.at(address));
        }
        Check.same("about(1) after wrong calls", x.about(1), 0);
    }
}
