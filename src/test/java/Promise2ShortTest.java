/** Promise 2: the text of every short one, against an assembler of the test's own. */
public final class Promise2ShortTest {
    public static void main(String[] args) {
        for (int bits = 0; bits < 65536; bits++) {
            if ((bits & 3) != 3) {
                Due due = Due.of(bits);
                Check.reads(bits, due.text(), 2, due.isLine() ? 1 : 0, due.operands());
            }
        }
        onlyTheLowestHalfCounts();
        Check.finish();
    }

    private static void onlyTheLowestHalfCounts() {
        Check.sentence("a short one's are its lowest 16");
        int[] uppers = {0x00010000, 0x7fff0000, 0x80000000, 0xffff0000};
        for (int upper : uppers) {
            Check.reads(upper | 1, "c.nop", 2, 1, 0);
            Check.reads(upper, ".half 0", 2, 0, 1);
            Check.reads(upper | 0x9002, "c.ebreak", 2, 1, 0);
            Check.reads(upper | 0xfffe, ".half 65534", 2, 0, 1);
        }
    }
}
