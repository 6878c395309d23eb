/** Promise 5: a byte becomes the lowest eight bits. */
public final class Promise5PokeTest {
    public static void main(String[] args) {
        int[] values = {0, 1, 127, 128, 255, 256, 257, -1, -256, Integer.MIN_VALUE, Integer.MAX_VALUE};
        for (int v : values) {
            becomes(0, v);
            becomes(101, v);
            becomes(254, v);
        }
        outside(new InstructionReader());
        everyByteIsItsOwn();
        Check.finish();
    }

    /** Above a byte of 0 the half is short, whatever the byte becomes. */
    private static void becomes(int address, int v) {
        InstructionReader x = new InstructionReader();
        x.poke(address + 1, ~v);
        x.poke(address + 1, v);
        InstructionReader y = new InstructionReader();
        y.read((v & 255) << 8);
        Check.same("at(" + address + ")", x.at(address), 2);
        Check.same("at(" + address + ") after poke of " + v, Check.text(x), Check.text(y));
    }

    private static void outside(InstructionReader x) {
        int[] wrong = {-1, 256, 257, Integer.MIN_VALUE, Integer.MAX_VALUE};
        for (int address : wrong) {
            Check.failsOutside("poke(" + address + ", 3)", () -> x.poke(address, 3));
        }
    }

    private static void everyByteIsItsOwn() {
        for (int address = 0; address < 255; address++) {
            InstructionReader x = new InstructionReader();
            for (int other = 0; other < 256; other++) {
                x.poke(other, other * 7 + 3 << 2);
            }
            int half = (address * 7 + 3 << 2 & 255) | (address * 7 + 10 << 2 & 255) << 8;
            InstructionReader y = new InstructionReader();
            y.read(half);
            Check.same("at(" + address + ")", x.at(address), 2);
            Check.same("at(" + address + ")", Check.text(x), Check.text(y));
        }
    }
}
