/**
 * 'Terms', the short ones: every bound that they name, with bits that another assembler makes too
 * (but for shifts by 0, which the document allows and it refuses), and the bits next to them that
 * no line is made of.
 */
public final class TermsShortTest {
    public static void main(String[] args) {
        addToStackPointer();
        loadAndStore();
        otherOfQ0();
        nothingAndAdd();
        jumps();
        loadNumber();
        moveStackPointer();
        upper();
        shiftsRight();
        andNumber();
        ofTwo();
        branches();
        shiftLeft();
        loadFromStack();
        jumpsAndMoves();
        storeToStack();
        otherOfQ2();
        Check.finish();
    }

    private static void addToStackPointer() {
        Check.sentence("c.addi4spn d', e: F 0, a multiple of 4, 4 .. 1020");
        Check.lines(0x0040, "c.addi4spn s0, 4", 0x0020, "c.addi4spn s0, 8",
                0x0800, "c.addi4spn s0, 16", 0x1000, "c.addi4spn s0, 32",
                0x0080, "c.addi4spn s0, 64", 0x0400, "c.addi4spn s0, 512",
                0x1fe0, "c.addi4spn s0, 1020", 0x1ffc, "c.addi4spn a5, 1020");
        Check.numbers(0x0000, 0x0004, 0x0008, 0x000c, 0x0010, 0x0014, 0x0018, 0x001c);
    }

    private static void loadAndStore() {
        Check.sentence("c.lw d', e(a'): F 2, c.sw b', e(a'): F 6, multiples of 4, 0 .. 124");
        Check.lines(0x4000, "c.lw s0, 0(s0)", 0x4380, "c.lw s0, 0(a5)", 0x405c, "c.lw a5, 4(s0)",
                0x441c, "c.lw a5, 8(s0)", 0x501c, "c.lw a5, 32(s0)", 0x403c, "c.lw a5, 64(s0)",
                0x5c7c, "c.lw a5, 124(s0)",
                0xc000, "c.sw s0, 0(s0)", 0xc380, "c.sw s0, 0(a5)", 0xc05c, "c.sw a5, 4(s0)",
                0xc41c, "c.sw a5, 8(s0)", 0xd01c, "c.sw a5, 32(s0)", 0xc03c, "c.sw a5, 64(s0)",
                0xdc7c, "c.sw a5, 124(s0)");
    }

    private static void otherOfQ0() {
        Check.sentence("Q 0: F 0, 2 and 6 alone");
        int[] unnamed = {1, 3, 4, 5, 7};
        for (int f : unnamed) {
            Check.numbers(f << 13, f << 13 | 0x1ffc, f << 13 | 0x0040);
        }
    }

    private static void nothingAndAdd() {
        Check.sentence("c.nop: 1. c.addi d, N: F 0. (c.nop for 1, not c.addi); N: e -32 .. 31");
        Check.lines(0x0001, "c.nop", 0x1f81, "c.addi t6, -32", 0x1ffd, "c.addi t6, -1",
                0x0f81, "c.addi t6, 0", 0x0f85, "c.addi t6, 1", 0x0ffd, "c.addi t6, 31",
                0x0081, "c.addi ra, 0", 0x0005, "c.addi zero, 1", 0x1001, "c.addi zero, -32",
                0x107d, "c.addi zero, -1");
    }

    private static void jumps() {
        Check.sentence("c.jal t: F 1, c.j t: F 5: -2048 .. 2046, even");
        Check.lines(0x3001, "c.jal .-2048", 0x3ffd, "c.jal .-2", 0x2001, "c.jal .+0",
                0x2009, "c.jal .+2", 0x2021, "c.jal .+8", 0x2801, "c.jal .+16",
                0x2005, "c.jal .+32", 0x2081, "c.jal .+64", 0x2041, "c.jal .+128",
                0x2201, "c.jal .+256", 0x2401, "c.jal .+512", 0x2101, "c.jal .+1024",
                0x2ffd, "c.jal .+2046", 0xb001, "c.j .-2048", 0xbffd, "c.j .-2",
                0xa001, "c.j .+0", 0xa009, "c.j .+2", 0xaffd, "c.j .+2046");
    }

    private static void loadNumber() {
        Check.sentence("c.li d, N: F 2");
        Check.lines(0x5f81, "c.li t6, -32", 0x5ffd, "c.li t6, -1", 0x4f81, "c.li t6, 0",
                0x4ffd, "c.li t6, 31", 0x4001, "c.li zero, 0", 0x5001, "c.li zero, -32");
    }

    private static void moveStackPointer() {
        Check.sentence("c.addi16sp e: F 3, d 2, a multiple of 16, -512 .. 496, not 0");
        Check.lines(0x7101, "c.addi16sp -512", 0x717d, "c.addi16sp -16", 0x6141, "c.addi16sp 16",
                0x6105, "c.addi16sp 32", 0x6121, "c.addi16sp 64", 0x6109, "c.addi16sp 128",
                0x6111, "c.addi16sp 256", 0x617d, "c.addi16sp 496");
        Check.numbers(0x6101);
    }

    private static void upper() {
        Check.sentence("c.lui d, N: F 3, d not 2, e not 0");
        Check.lines(0x6085, "c.lui ra, 1", 0x6185, "c.lui gp, 1", 0x61fd, "c.lui gp, 31",
                0x7181, "c.lui gp, -32", 0x70fd, "c.lui ra, -1", 0x7ffd, "c.lui t6, -1",
                0x6005, "c.lui zero, 1", 0x7001, "c.lui zero, -32");
        for (int d = 0; d < 32; d++) {
            Check.numbers(1 | 3 << 13 | d << 7);
        }
    }

    private static void shiftsRight() {
        Check.sentence("F 4: c.srli a', e, c.srai a', e (0 .. 31 in 6 .. 2)");
        Check.lines(0x8001, "c.srli s0, 0", 0x8005, "c.srli s0, 1", 0x83fd, "c.srli a5, 31",
                0x8401, "c.srai s0, 0", 0x8405, "c.srai s0, 1", 0x87fd, "c.srai a5, 31");
        Check.numbers(0x9001, 0x9005, 0x93fd, 0x9401, 0x9405, 0x97fd);
    }

    private static void andNumber() {
        Check.sentence("c.andi a', N");
        Check.lines(0x9801, "c.andi s0, -32", 0x987d, "c.andi s0, -1", 0x8801, "c.andi s0, 0",
                0x8bfd, "c.andi a5, 31");
    }

    private static void ofTwo() {
        Check.sentence("c.sub c.xor c.or c.and a', b': 3 there, and 0 .. 3 in 6, 5");
        Check.lines(0x8c01, "c.sub s0, s0", 0x8c1d, "c.sub s0, a5", 0x8c3d, "c.xor s0, a5",
                0x8c5d, "c.or s0, a5", 0x8fe1, "c.and a5, s0", 0x8ffd, "c.and a5, a5");
        Check.numbers(0x9c01, 0x9c1d, 0x9c3d, 0x9c5d, 0x9fe1, 0x9ffd);
    }

    private static void branches() {
        Check.sentence("c.beqz a', t: F 6, c.bnez a', t: F 7: -256 .. 254, even");
        Check.lines(0xd001, "c.beqz s0, .-256", 0xdc7d, "c.beqz s0, .-2", 0xc001, "c.beqz s0, .+0",
                0xc009, "c.beqz s0, .+2", 0xc401, "c.beqz s0, .+8", 0xc005, "c.beqz s0, .+32",
                0xc021, "c.beqz s0, .+64", 0xc041, "c.beqz s0, .+128", 0xcffd, "c.beqz a5, .+254",
                0xf001, "c.bnez s0, .-256", 0xe001, "c.bnez s0, .+0", 0xeffd, "c.bnez a5, .+254");
    }

    private static void shiftLeft() {
        Check.sentence("Q 2: c.slli d, e: F 0, 0 .. 31 in 6 .. 2");
        Check.lines(0x0002, "c.slli zero, 0", 0x0f82, "c.slli t6, 0", 0x0f86, "c.slli t6, 1",
                0x0ffe, "c.slli t6, 31");
        Check.numbers(0x1002, 0x1f86, 0x1ffe);
    }

    private static void loadFromStack() {
        Check.sentence("c.lwsp d, e: F 2, d not 0, a multiple of 4, 0 .. 252");
        Check.lines(0x4082, "c.lwsp ra, 0", 0x4092, "c.lwsp ra, 4", 0x5082, "c.lwsp ra, 32",
                0x4086, "c.lwsp ra, 64", 0x5ffe, "c.lwsp t6, 252");
        Check.numbers(0x4002, 0x4012, 0x5002, 0x507e);
    }

    private static void jumpsAndMoves() {
        Check.sentence("d of the four and b not 0, but d of c.mv and c.add may be 0; c.ebreak 36866");
        Check.lines(0x8082, "c.jr ra", 0x8f82, "c.jr t6", 0x8006, "c.mv zero, ra",
                0x8086, "c.mv ra, ra", 0x8ffe, "c.mv t6, t6", 36866, "c.ebreak",
                0x9082, "c.jalr ra", 0x9f82, "c.jalr t6", 0x9006, "c.add zero, ra",
                0x9086, "c.add ra, ra", 0x9ffe, "c.add t6, t6");
        Check.numbers(0x8002);
    }

    private static void storeToStack() {
        Check.sentence("c.swsp b, e: F 6, as c.lwsp, [5:2|7:6] in 12 .. 7");
        Check.lines(0xc002, "c.swsp zero, 0", 0xc206, "c.swsp ra, 4", 0xd006, "c.swsp ra, 32",
                0xc086, "c.swsp ra, 64", 0xc106, "c.swsp ra, 128", 0xdffe, "c.swsp t6, 252",
                0xdf82, "c.swsp zero, 252");
    }

    private static void otherOfQ2() {
        Check.sentence("Q 2: F 0, 2, 4 and 6 alone");
        int[] unnamed = {1, 3, 5, 7};
        for (int f : unnamed) {
            Check.numbers(f << 13 | 2, f << 13 | 0x1ffe, f << 13 | 0x0086);
        }
    }
}
