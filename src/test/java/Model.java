/** The document's promises in their plainest words, with texts from the tests' own assembler. */
final class Model {
    private final int[] stretch = new int[256];
    private Due text = null;

    int read(int bits) {
        text = Due.of(bits);
        return text.text().length();
    }

    char letter(int k) {
        if (text == null || k < 0 || k >= text.text().length()) {
            throw new IndexOutOfBoundsException();
        }
        return text.text().charAt(k);
    }

    int about(int what) {
        if (what < 0 || what > 3) {
            return -1;
        }
        if (text == null) {
            return 0;
        }
        return new int[] {text.text().length(), text.bytes(), text.isLine() ? 1 : 0, text.operands()}[what];
    }

    void poke(int address, int v) {
        demand(address);
        stretch[address] = v & 255;
    }

    int at(int address) {
        demand(address);
        if (!whole(address)) {
            return 0;
        }
        text = Due.of(bits(address));
        return text.bytes();
    }

    int next(int address, int n) {
        demand(address);
        if (n < 0) {
            throw new IllegalArgumentException();
        }
        if (!begins(address)) {
            return -1;
        }
        return n == 0 ? address : n > 128 || !begins(behind(address)) ? -1 : next(behind(address), n - 1);
    }

    int before(int from, int address) {
        demand(from);
        demand(address);
        if (address <= from || !begins(from)) {
            return -1;
        }
        return behind(from) < address && begins(behind(from)) ? before(behind(from), address) : from;
    }

    int numbers(int address) {
        demand(address);
        if (!begins(address) || !whole(address)) {
            return 0;
        }
        int one = Due.of(bits(address)).isLine() ? 0 : 1;
        return begins(behind(address)) ? one + numbers(behind(address)) : one;
    }

    private static void demand(int address) {
        if (address < 0 || address > 255) {
            throw new IndexOutOfBoundsException();
        }
    }

    private static boolean begins(int address) {
        return address + 2 <= 256;
    }

    private int behind(int address) {
        return address + ((stretch[address] & 3) == 3 ? 4 : 2);
    }

    private boolean whole(int address) {
        return behind(address) <= 256;
    }

    private int bits(int address) {
        int all = 0;
        for (int i = behind(address) - 1; i >= address; i--) {
            all = all << 8 | stretch[i];
        }
        return all;
    }
}
