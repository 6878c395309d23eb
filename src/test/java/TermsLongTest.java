/**
 * 'Terms', the long ones: every bound that they name, with bits that another assembler makes too,
 * and the bits next to them that no line is made of.
 */
public final class TermsLongTest {
    public static void main(String[] args) {
        registersOnly();
        productsAndTheirG();
        twelveBitNumbers();
        shifts();
        loads();
        jumpByRegister();
        stores();
        upperNumbers();
        branches();
        jumps();
        atomics();
        orders();
        loadReserved();
        counters();
        alone();
        otherLowestSeven();
        Check.finish();
    }

    private static void registersOnly() {
        Check.sentence("d, a, b: 51, by F and G: add 0 0, sub 0 32, ..");
        Check.lines(0x00000033, "add zero, zero, zero", 0x01f00fb3, "add t6, zero, t6",
                0x01ff8fb3, "add t6, t6, t6", 0x403100b3, "sub ra, sp, gp",
                0x01b918b3, "sll a7, s2, s11", 0x0083ae33, "slt t3, t2, s0",
                0x011534b3, "sltu s1, a0, a7", 0x00004033, "xor zero, zero, zero",
                0x0062d233, "srl tp, t0, t1", 0x41ff5eb3, "sra t4, t5, t6",
                0x015a69b3, "or s3, s4, s5", 0x018bfb33, "and s6, s7, s8");
        for (int f = 0; f < 8; f++) {
            if (f != 0 && f != 5) {
                Check.numbers(51 | f << 12 | 32 << 25);
            }
        }
    }

    private static void productsAndTheirG() {
        Check.sentence("mul .. remu F 0 .. 7, G 1");
        Check.lines(0x03bd0cb3, "mul s9, s10, s11", 0x02d615b3, "mulh a1, a2, a3",
                0x0307a733, "mulhsu a4, a5, a6", 0x02a53533, "mulhu a0, a0, a0",
                0x02c5c533, "div a0, a1, a2", 0x02c5d533, "divu a0, a1, a2",
                0x02c5e533, "rem a0, a1, a2", 0x02c5f533, "remu a0, a1, a2");
        for (int g = 2; g < 128; g++) {
            for (int f = 0; f < 8 && g != 32; f++) {
                Check.numbers(51 | f << 12 | g << 25);
            }
        }
    }

    private static void twelveBitNumbers() {
        Check.sentence("e -2048 .. 2047 in bits 20 .. 31");
        Check.lines(0x80058513, "addi a0, a1, -2048", 0x80158513, "addi a0, a1, -2047",
                0xfff58513, "addi a0, a1, -1", 0x00058513, "addi a0, a1, 0",
                0x00158513, "addi a0, a1, 1", 0x7fe58513, "addi a0, a1, 2046",
                0x7ff58513, "addi a0, a1, 2047",
                0x8005a513, "slti a0, a1, -2048", 0x7ff5a513, "slti a0, a1, 2047",
                0x8005b513, "sltiu a0, a1, -2048", 0x7ff5b513, "sltiu a0, a1, 2047",
                0x8005c513, "xori a0, a1, -2048", 0x7ff5c513, "xori a0, a1, 2047",
                0x8005e513, "ori a0, a1, -2048", 0x7ff5e513, "ori a0, a1, 2047",
                0x8005f513, "andi a0, a1, -2048", 0x7ff5f513, "andi a0, a1, 2047");
    }

    private static void shifts() {
        Check.sentence("slli F 1, srli 5, srai 5 and G 32: e 0 .. 31 in bits 20 .. 24");
        Check.lines(0x00059513, "slli a0, a1, 0", 0x00159513, "slli a0, a1, 1",
                0x01f59513, "slli a0, a1, 31",
                0x0005d513, "srli a0, a1, 0", 0x01f5d513, "srli a0, a1, 31",
                0x4005d513, "srai a0, a1, 0", 0x41f5d513, "srai a0, a1, 31");
        Check.numbers(0x02059513, 0x40059513, 0x80059513, 0x0205d513, 0x8005d513, 0x4205d513,
                0xc005d513);
        for (int g = 1; g < 128; g++) {
            Check.numbers(19 | 1 << 12 | g << 25);
            if (g != 32) {
                Check.numbers(19 | 5 << 12 | g << 25);
            }
        }
    }

    private static void loads() {
        Check.sentence("d, e(a): 3: lb F 0, lh 1, lw 2, lbu 4, lhu 5");
        Check.lines(0x80010503, "lb a0, -2048(sp)", 0x7ff10503, "lb a0, 2047(sp)",
                0x80011503, "lh a0, -2048(sp)", 0x7ff11503, "lh a0, 2047(sp)",
                0x80012503, "lw a0, -2048(sp)", 0xfff12503, "lw a0, -1(sp)",
                0x00012503, "lw a0, 0(sp)", 0x7ff12503, "lw a0, 2047(sp)",
                0x80014503, "lbu a0, -2048(sp)", 0x7ff14503, "lbu a0, 2047(sp)",
                0x80015503, "lhu a0, -2048(sp)", 0x7ff15503, "lhu a0, 2047(sp)");
        Check.numbers(3 | 3 << 12, 3 | 6 << 12, 3 | 7 << 12);
    }

    private static void jumpByRegister() {
        Check.sentence("103: jalr 0");
        Check.lines(0x800300e7, "jalr ra, -2048(t1)", 0x7ff300e7, "jalr ra, 2047(t1)",
                0x00008067, "jalr zero, 0(ra)");
        for (int f = 1; f < 8; f++) {
            Check.numbers(103 | f << 12);
        }
    }

    private static void stores() {
        Check.sentence("35: sb 0, sh 1, sw 2: e likewise, its bits 5 .. 11 in G, 0 .. 4 in 7 .. 11");
        Check.lines(0x80a10023, "sb a0, -2048(sp)", 0x7ea10fa3, "sb a0, 2047(sp)",
                0x80a11023, "sh a0, -2048(sp)", 0x7ea11fa3, "sh a0, 2047(sp)",
                0x80a12023, "sw a0, -2048(sp)", 0xfea12fa3, "sw a0, -1(sp)",
                0x00a12023, "sw a0, 0(sp)", 0x00a120a3, "sw a0, 1(sp)",
                0x00a12fa3, "sw a0, 31(sp)", 0x02a12023, "sw a0, 32(sp)",
                0x7ea12fa3, "sw a0, 2047(sp)");
        for (int f = 3; f < 8; f++) {
            Check.numbers(35 | f << 12);
        }
    }

    private static void upperNumbers() {
        Check.sentence("lui 55, auipc 23: e 0 .. 1048575 in bits 12 .. 31");
        Check.lines(0x00000537, "lui a0, 0", 0x00001537, "lui a0, 1", 0x7ffff537, "lui a0, 524287",
                0x80000537, "lui a0, 524288", 0xfffff537, "lui a0, 1048575",
                0x00000517, "auipc a0, 0", 0x00001517, "auipc a0, 1",
                0x80000517, "auipc a0, 524288", 0xfffff517, "auipc a0, 1048575");
    }

    private static void branches() {
        Check.sentence("a, b, t: 99: the offset -4096 .. 4094, even");
        Check.lines(0x80b50063, "beq a0, a1, .-4096", 0xfeb50fe3, "beq a0, a1, .-2",
                0x00b50063, "beq a0, a1, .+0", 0x00b50163, "beq a0, a1, .+2",
                0x00b50863, "beq a0, a1, .+16", 0x02b50063, "beq a0, a1, .+32",
                0x40b50063, "beq a0, a1, .+1024", 0x00b500e3, "beq a0, a1, .+2048",
                0x7eb50fe3, "beq a0, a1, .+4094",
                0x80b51063, "bne a0, a1, .-4096", 0x7eb51fe3, "bne a0, a1, .+4094",
                0x80b54063, "blt a0, a1, .-4096", 0x7eb54fe3, "blt a0, a1, .+4094",
                0x80b55063, "bge a0, a1, .-4096", 0x7eb55fe3, "bge a0, a1, .+4094",
                0x80b56063, "bltu a0, a1, .-4096", 0x7eb56fe3, "bltu a0, a1, .+4094",
                0x80b57063, "bgeu a0, a1, .-4096", 0x7eb57fe3, "bgeu a0, a1, .+4094");
        Check.numbers(99 | 2 << 12, 99 | 3 << 12);
    }

    private static void jumps() {
        Check.sentence("d, t: jal 111: -1048576 .. 1048574, even");
        Check.lines(0x800000ef, "jal ra, .-1048576", 0xfffff0ef, "jal ra, .-2",
                0x000000ef, "jal ra, .+0", 0x002000ef, "jal ra, .+2",
                0x400000ef, "jal ra, .+1024", 0x001000ef, "jal ra, .+2048",
                0x000010ef, "jal ra, .+4096", 0x000800ef, "jal ra, .+524288",
                0x7ffff0ef, "jal ra, .+1048574");
    }

    private static void atomics() {
        Check.sentence("d, b, (a): 47, F 2, by the upper five bits of G");
        Check.lines(0x18b6252f, "sc.w a0, a1, (a2)", 0x08b6252f, "amoswap.w a0, a1, (a2)",
                0x00b6252f, "amoadd.w a0, a1, (a2)", 0x20b6252f, "amoxor.w a0, a1, (a2)",
                0x60b6252f, "amoand.w a0, a1, (a2)", 0x40b6252f, "amoor.w a0, a1, (a2)",
                0x80b6252f, "amomin.w a0, a1, (a2)", 0xa0b6252f, "amomax.w a0, a1, (a2)",
                0xc0b6252f, "amominu.w a0, a1, (a2)", 0xe0b6252f, "amomaxu.w a0, a1, (a2)",
                0x1800202f, "sc.w zero, zero, (zero)");
        int[] unnamed = {5, 6, 7, 9, 10, 11, 13, 14, 15, 17, 18, 19, 21, 22, 23, 25, 26, 27, 29, 30, 31};
        for (int upper : unnamed) {
            Check.numbers(0x0000252f | upper << 27, 0x0600252f | upper << 27);
        }
        for (int f = 0; f < 8; f++) {
            if (f != 2) {
                Check.numbers(47 | f << 12, 47 | f << 12 | 2 << 27, 47 | f << 12 | 28 << 27);
            }
        }
    }

    private static void orders() {
        Check.sentence("the name may have .aq (bit 26), .rl (25) or .aqrl (both) behind it");
        Check.lines(0x1cb6252f, "sc.w.aq a0, a1, (a2)", 0x1ab6252f, "sc.w.rl a0, a1, (a2)",
                0x1eb6252f, "sc.w.aqrl a0, a1, (a2)", 0x04b6252f, "amoadd.w.aq a0, a1, (a2)",
                0x02b6252f, "amoadd.w.rl a0, a1, (a2)", 0x06b6252f, "amoadd.w.aqrl a0, a1, (a2)",
                0xc600202f, "amominu.w.aqrl zero, zero, (zero)",
                0xe600202f, "amomaxu.w.aqrl zero, zero, (zero)");
    }

    private static void loadReserved() {
        Check.sentence("d, (a): lr.w 2; b: 0 where none is said");
        Check.lines(0x1006252f, "lr.w a0, (a2)", 0x1406252f, "lr.w.aq a0, (a2)",
                0x1206252f, "lr.w.rl a0, (a2)", 0x1606252f, "lr.w.aqrl a0, (a2)");
        for (int b = 1; b < 32; b++) {
            Check.numbers(0x1006252f | b << 20, 0x1606252f | b << 20);
        }
    }

    private static void counters() {
        Check.sentence("d: rdcycle ..: 115, F 2, 3072, 3073, 3074, 3200, 3201, 3202; a: 0");
        Check.lines(0xc0002573, "rdcycle a0", 0xc0102573, "rdtime a0", 0xc0202573, "rdinstret a0",
                0xc8002573, "rdcycleh a0", 0xc8102573, "rdtimeh a0", 0xc8202573, "rdinstreth a0",
                0xc0002073, "rdcycle zero", 0xc8202ff3, "rdinstreth t6");
        int[] unnamed = {0, 1, 2, 3071, 3075, 3199, 3203, 1024, 2048, 4095};
        for (int number : unnamed) {
            Check.numbers(115 | 2 << 12 | number << 20);
        }
        for (int a = 1; a < 32; a++) {
            Check.numbers(0xc0002573 | a << 15, 0xc8202573 | a << 15);
        }
        for (int f = 0; f < 8; f++) {
            if (f != 2) {
                Check.numbers(115 | f << 12 | 3072 << 20, 115 | f << 12 | 3202 << 20);
            }
        }
    }

    private static void alone() {
        Check.sentence("Alone: fence 267386895, fence.i 4111, ecall 115, ebreak 1048691");
        Check.lines(267386895, "fence", 4111, "fence.i", 115, "ecall", 1048691, "ebreak");
        int[] named = {267386895, 4111, 115, 1048691};
        for (int bits : named) {
            for (int k = 7; k < 32; k++) {
                int other = bits ^ 1 << k;
                if (other != 115 && other != 1048691) {
                    Check.numbers(other);
                }
            }
        }
        Check.numbers(15, 15 | 1 << 12 | 267386880, 115 | 2 << 20, 115 | 3 << 20);
    }

    private static void otherLowestSeven() {
        Check.sentence("Bits 0 .. 6 as said; if there is none: .word");
        boolean[] said = new boolean[128];
        for (int seven : new int[] {3, 15, 19, 23, 35, 47, 51, 55, 99, 103, 111, 115}) {
            said[seven] = true;
        }
        for (int seven = 3; seven < 128; seven += 4) {
            if (!said[seven]) {
                Check.numbers(seven, seven | 2 << 12, seven | 1 << 25, seven | 0xffffff80);
            }
        }
    }
}
