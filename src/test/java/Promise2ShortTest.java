/** Promise 2: the text of every short one, against an assembler of the test's own. */
public final class Promise2ShortTest {
    public static void main(String[] args) {
        examples();
        Lines.Shorts due = Lines.shortOnes();
        for (int bits = 0; bits < 65536; bits++) {
            if ((bits & 3) != 3) {
                one(due, bits);
            }
        }
        onlyTheLowestHalfCounts();
        Check.finish();
    }

    private static void one(Lines.Shorts due, int bits) {
        String text = due.text[bits];
        if (text == null) {
            Check.reads(bits, ".half " + bits, 2, 0, 1);
        } else {
            Check.reads(bits, text, 2, 1, due.count[bits]);
        }
    }

    private static void onlyTheLowestHalfCounts() {
        int[] uppers = {0x00010000, 0x7fff0000, 0x80000000, 0xffff0000};
        for (int upper : uppers) {
            Check.reads(upper | 1, "c.nop", 2, 1, 0);
            Check.reads(upper, ".half 0", 2, 0, 1);
            Check.reads(upper | 0x9002, "c.ebreak", 2, 1, 0);
            Check.reads(upper | 0xfffe, ".half 65534", 2, 0, 1);
        }
    }

    private static void examples() {
        Check.reads(1, "c.nop", 2, 1, 0);
        Check.reads(0, ".half 0", 2, 0, 1);
        Check.reads(5, "c.addi zero, 1", 2, 1, 2);
        Check.reads(0x81, "c.addi ra, 0", 2, 1, 2);
        Check.reads(0x4001, "c.li zero, 0", 2, 1, 2);
        Check.reads(0x6101, ".half 24833", 2, 0, 1);
        Check.reads(0x7101, "c.addi16sp -512", 2, 1, 1);
        Check.reads(0x6001, ".half 24577", 2, 0, 1);
        Check.reads(0x7001, "c.lui zero, -32", 2, 1, 2);
        Check.reads(0x8001, "c.srli s0, 0", 2, 1, 2);
        Check.reads(0x9001, ".half 36865", 2, 0, 1);
        Check.reads(0x9c01, ".half 39937", 2, 0, 1);
        Check.reads(0xa001, "c.j .+0", 2, 1, 1);
        Check.reads(0xb001, "c.j .-2048", 2, 1, 1);
        Check.reads(0xd001, "c.beqz s0, .-256", 2, 1, 2);
        Check.reads(2, "c.slli zero, 0", 2, 1, 2);
        Check.reads(0x1002, ".half 4098", 2, 0, 1);
        Check.reads(0x4002, ".half 16386", 2, 0, 1);
        Check.reads(0x8002, ".half 32770", 2, 0, 1);
        Check.reads(0x8082, "c.jr ra", 2, 1, 1);
        Check.reads(0x8006, "c.mv zero, ra", 2, 1, 2);
        Check.reads(0x9002, "c.ebreak", 2, 1, 0);
        Check.reads(0x9082, "c.jalr ra", 2, 1, 1);
        Check.reads(0x9006, "c.add zero, ra", 2, 1, 2);
        Check.reads(0xc002, "c.swsp zero, 0", 2, 1, 2);
        Check.reads(0x4188, "c.lw a0, 0(a1)", 2, 1, 2);
    }
}
