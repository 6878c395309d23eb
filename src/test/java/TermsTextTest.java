/** 'Terms': which bits are long, the names of registers, and how the text is written. */
public final class TermsTextTest {
    private static final String[] NAMES = {"zero", "ra", "sp", "gp", "tp", "t0", "t1", "t2", "s0",
        "s1", "a0", "a1", "a2", "a3", "a4", "a5", "a6", "a7", "s2", "s3", "s4", "s5", "s6", "s7",
        "s8", "s9", "s10", "s11", "t3", "t4", "t5", "t6"};

    public static void main(String[] args) {
        longAndShort();
        registers();
        lesserRegisters();
        signOfNumbers();
        signOfOffsets();
        offsetIsNotTheAddress();
        withoutOperands();
        unsignedWords();
        unsignedHalves();
        Check.finish();
    }

    private static void longAndShort() {
        Check.sentence("LONG bits are 32 of which the lowest two are 11, all others are SHORT: 16");
        int[] uppers = {0, 0x7fff0000, 0x80000000, 0xffff0000};
        for (int upper : uppers) {
            Check.numbers(upper | 0x2000, upper | 0x2002, upper | 0x001f, upper | 0x007f);
            Check.reads(upper | 0x4001, "c.li zero, 0", 2, 1, 2);
            Check.reads(upper, ".half 0", 2, 0, 1);
            Check.reads(upper | 2, "c.slli zero, 0", 2, 1, 2);
        }
        Check.reads(0x00010003, "lb zero, 0(sp)", 4, 1, 2);
        Check.reads(0xffff8003, "lb zero, -1(t6)", 4, 1, 2);
    }

    private static void registers() {
        Check.sentence("REGISTERS have the names, from 0 on: zero ra sp .. t6");
        for (int r = 0; r < 32; r++) {
            Check.line(0x00000033 | r << 7, "add " + NAMES[r] + ", zero, zero");
            Check.line(0x00000033 | r << 15, "add zero, " + NAMES[r] + ", zero");
            Check.line(0x00000033 | r << 20, "add zero, zero, " + NAMES[r]);
            Check.line(0x8006 | r << 7, "c.mv " + NAMES[r] + ", ra");
            Check.line(0xc002 | r << 2, "c.swsp " + NAMES[r] + ", 0");
        }
    }

    private static void lesserRegisters() {
        Check.sentence("d', a', b' are registers 8 .. 15, as 0 .. 7, in bits 2 .. 4 or 7 .. 9");
        for (int r = 0; r < 8; r++) {
            Check.line(0x4000 | r << 2, "c.lw " + NAMES[8 + r] + ", 0(s0)");
            Check.line(0x4000 | r << 7, "c.lw s0, 0(" + NAMES[8 + r] + ")");
            Check.line(0xc000 | r << 2, "c.sw " + NAMES[8 + r] + ", 0(s0)");
            Check.line(0x8c01 | r << 7, "c.sub " + NAMES[8 + r] + ", s0");
            Check.line(0xc001 | r << 7, "c.beqz " + NAMES[8 + r] + ", .+0");
        }
    }

    private static void signOfNumbers() {
        Check.sentence("e in decimal digits, - before it if it is below 0");
        Check.lines(0xfff00013, "addi zero, zero, -1", 0x00000013, "addi zero, zero, 0",
                0x00100013, "addi zero, zero, 1", 0x00900013, "addi zero, zero, 9",
                0x00a00013, "addi zero, zero, 10", 0x06300013, "addi zero, zero, 99",
                0x06400013, "addi zero, zero, 100", 0x3e700013, "addi zero, zero, 999",
                0x3e800013, "addi zero, zero, 1000", 0xff600013, "addi zero, zero, -10",
                0xf9c00013, "addi zero, zero, -100", 0x0270f037, "lui zero, 9999",
                0x02710037, "lui zero, 10000", 0xf4240037, "lui zero, 1000000");
    }

    private static void signOfOffsets() {
        Check.sentence("for t a ., a + (a - if the offset is below 0), and the offset's digits");
        Check.lines(0x0000006f, "jal zero, .+0", 0x0020006f, "jal zero, .+2",
                0xfffff06f, "jal zero, .-2", 0x00000063, "beq zero, zero, .+0",
                0xfe000fe3, "beq zero, zero, .-2", 0xa001, "c.j .+0", 0xa009, "c.j .+2",
                0xbffd, "c.j .-2", 0xc001, "c.beqz s0, .+0", 0xdc7d, "c.beqz s0, .-2");
    }

    private static void offsetIsNotTheAddress() {
        Check.sentence("the OFFSET being it minus the address of the instruction");
        int[] addresses = {0, 1, 2, 100, 252};
        for (int address : addresses) {
            InstructionReader x = new InstructionReader();
            Check.pokeBits(x, address, 0xff9ff06f, 4);
            Check.same("at(" + address + ")", x.at(address), 4);
            Check.same("jump at " + address, Check.text(x), "jal zero, .-8");
        }
    }

    private static void withoutOperands() {
        Check.sentence("without operands the name alone");
        Check.lines(0x00000073, "ecall", 0x00100073, "ebreak", 0x0ff0000f, "fence",
                0x0000100f, "fence.i", 0x0001, "c.nop", 0x9002, "c.ebreak");
    }

    private static void unsignedWords() {
        Check.sentence("If there is none: .word, a blank, and the bits, taken unsigned");
        Check.reads(7, ".word 7", 4, 0, 1);
        Check.reads(11, ".word 11", 4, 0, 1);
        Check.reads(1000000011, ".word 1000000011", 4, 0, 1);
        Check.reads(999999991, ".word 999999991", 4, 0, 1);
        Check.reads(0x7fffffff, ".word 2147483647", 4, 0, 1);
        Check.reads(0x80000007, ".word 2147483655", 4, 0, 1);
        Check.reads(0xfffffffb, ".word 4294967291", 4, 0, 1);
        Check.reads(-1, ".word 4294967295", 4, 0, 1);
    }

    private static void unsignedHalves() {
        Check.sentence("If there is none: .half, a blank, and the bits, taken unsigned");
        Check.reads(0, ".half 0", 2, 0, 1);
        Check.reads(4, ".half 4", 2, 0, 1);
        Check.reads(0x7ffe, ".half 32766", 2, 0, 1);
        Check.reads(0x8000, ".half 32768", 2, 0, 1);
        Check.reads(0xfffe, ".half 65534", 2, 0, 1);
        Check.reads(0xfffffffe, ".half 65534", 2, 0, 1);
        Check.reads(0xffff0000, ".half 0", 2, 0, 1);
    }
}
