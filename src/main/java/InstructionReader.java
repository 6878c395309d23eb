/**
 * A reader of instructions: bits of a small 32-bit hart become the line of an assembler that they
 * are made of, or a number, if there is none; a stretch of bytes is gone through forwards and
 * backwards.
 */
public final class InstructionReader {
    public static final int NONE = -1;

    private static final int STRETCH_BYTES = 256;
    private static final int LONG_BYTES = 4;
    private static final int SHORT_BYTES = 2;
    // An instruction begins where its lower half is there, even if the upper half is not.
    private static final int LAST_BEGINNING = STRETCH_BYTES - SHORT_BYTES;

    private final int[] stretch;
    private final Text text;
    private int textBytes;
    private boolean textIsInstruction;
    private int textOperands;

    public InstructionReader() {
        stretch = new int[STRETCH_BYTES];
        text = new Text();
        textBytes = 0;
        textIsInstruction = false;
        textOperands = 0;
    }

    public int read(int bits) {
        show(isLong(bits) ? bits : bits & 0xffff);
        return text.size();
    }

    public char letter(int k) throws IndexOutOfBoundsException {
        if (k < 0 || k >= text.size()) {
            throw new IndexOutOfBoundsException("no such character in the text");
        }
        return text.character(k);
    }

    public int about(int what) {
        switch (what) {
            case 0:
                return text.size();
            case 1:
                return textBytes;
            case 2:
                return textIsInstruction ? 1 : 0;
            case 3:
                return textOperands;
            default:
                return NONE;
        }
    }

    public void poke(int address, int v) throws IndexOutOfBoundsException {
        demandAddress(address);
        stretch[address] = v & 0xff;
    }

    public int at(int address) throws IndexOutOfBoundsException {
        demandAddress(address);
        if (!isWholeAt(address)) {
            return 0;
        }
        show(bitsAt(address));
        return textBytes;
    }

    public int next(int address, int n) throws IndexOutOfBoundsException, IllegalArgumentException {
        demandAddress(address);
        if (n < 0) {
            throw new IllegalArgumentException("n is below 0");
        }
        int here = address;
        for (int passed = 0; passed < n && here <= LAST_BEGINNING; passed++) {
            here += bytesAt(here);
        }
        return here <= LAST_BEGINNING ? here : NONE;
    }

    public int before(int from, int address) throws IndexOutOfBoundsException {
        demandAddress(from);
        demandAddress(address);
        int last = NONE;
        int here = from;
        while (here < address && here <= LAST_BEGINNING) {
            last = here;
            // Both steps are written out, here and in numbers, to show that the loop ends.
            here += isLongAt(here) ? LONG_BYTES : SHORT_BYTES;
        }
        return last;
    }

    public int numbers(int address) throws IndexOutOfBoundsException {
        demandAddress(address);
        int count = 0;
        int here = address;
        while (here <= LAST_BEGINNING) {
            if (isWholeAt(here) && !kindOf(bitsAt(here)).isInstruction()) {
                count++;
            }
            here += isLongAt(here) ? LONG_BYTES : SHORT_BYTES;
        }
        return count;
    }

    private static void demandAddress(int address) {
        if (!isAddress(address)) {
            throw new IndexOutOfBoundsException("an address is 0 .. 255");
        }
    }

    private static boolean isAddress(int address) {
        return address >= 0 && address < STRETCH_BYTES;
    }

    private static boolean isLong(int bits) {
        return (bits & 3) == 3;
    }

    private static Kind kindOf(int bits) {
        return isLong(bits) ? LongKinds.ofWord(bits) : ShortKinds.ofHalf(bits);
    }

    private void show(int bits) {
        Kind kind = kindOf(bits);
        text.write(kind, bits);
        textBytes = isLong(bits) ? LONG_BYTES : SHORT_BYTES;
        textIsInstruction = kind.isInstruction();
        textOperands = kind.operandCount();
    }

    private boolean isWholeAt(int address) {
        return address + bytesAt(address) <= STRETCH_BYTES;
    }

    private int bytesAt(int address) {
        return isLongAt(address) ? LONG_BYTES : SHORT_BYTES;
    }

    private boolean isLongAt(int address) {
        return isLong(byteAt(address));
    }

    private int bitsAt(int address) {
        int half = halfAt(address);
        return isLong(half) ? half | halfAt(address + SHORT_BYTES) << 16 : half;
    }

    private int halfAt(int address) {
        return byteAt(address) | byteAt(address + 1) << 8;
    }

    private int byteAt(int address) {
        return isAddress(address) ? stretch[address] : 0;
    }

    /**
     * The lines that there are, and the two numbers for bits without a line. The operands stand as
     * in the text, but each register, number and offset is one letter that tells where it is in
     * the bits; Text.operand knows the letters.
     */
    private enum Kind {
        WORD(".word", "v"), HALF(".half", "v"),

        ADD("add", "d, a, b"), SUB("sub", "d, a, b"), SLL("sll", "d, a, b"),
        SLT("slt", "d, a, b"), SLTU("sltu", "d, a, b"), XOR("xor", "d, a, b"),
        SRL("srl", "d, a, b"), SRA("sra", "d, a, b"), OR("or", "d, a, b"), AND("and", "d, a, b"),

        MUL("mul", "d, a, b"), MULH("mulh", "d, a, b"), MULHSU("mulhsu", "d, a, b"),
        MULHU("mulhu", "d, a, b"), DIV("div", "d, a, b"), DIVU("divu", "d, a, b"),
        REM("rem", "d, a, b"), REMU("remu", "d, a, b"),

        ADDI("addi", "d, a, i"), SLTI("slti", "d, a, i"), SLTIU("sltiu", "d, a, i"),
        XORI("xori", "d, a, i"), ORI("ori", "d, a, i"), ANDI("andi", "d, a, i"),
        SLLI("slli", "d, a, h"), SRLI("srli", "d, a, h"), SRAI("srai", "d, a, h"),

        LB("lb", "d, i(a)"), LH("lh", "d, i(a)"), LW("lw", "d, i(a)"), LBU("lbu", "d, i(a)"),
        LHU("lhu", "d, i(a)"), JALR("jalr", "d, i(a)"),
        SB("sb", "b, s(a)"), SH("sh", "b, s(a)"), SW("sw", "b, s(a)"),
        LUI("lui", "d, u"), AUIPC("auipc", "d, u"),

        BEQ("beq", "a, b, B"), BNE("bne", "a, b, B"), BLT("blt", "a, b, B"),
        BGE("bge", "a, b, B"), BLTU("bltu", "a, b, B"), BGEU("bgeu", "a, b, B"),
        JAL("jal", "d, J"),

        LR("lr.w", "d, (a)", true), SC("sc.w", "d, b, (a)", true),
        AMOSWAP("amoswap.w", "d, b, (a)", true), AMOADD("amoadd.w", "d, b, (a)", true),
        AMOXOR("amoxor.w", "d, b, (a)", true), AMOAND("amoand.w", "d, b, (a)", true),
        AMOOR("amoor.w", "d, b, (a)", true), AMOMIN("amomin.w", "d, b, (a)", true),
        AMOMAX("amomax.w", "d, b, (a)", true), AMOMINU("amominu.w", "d, b, (a)", true),
        AMOMAXU("amomaxu.w", "d, b, (a)", true),

        RDCYCLE("rdcycle", "d"), RDTIME("rdtime", "d"), RDINSTRET("rdinstret", "d"),
        RDCYCLEH("rdcycleh", "d"), RDTIMEH("rdtimeh", "d"), RDINSTRETH("rdinstreth", "d"),
        FENCE("fence", ""), FENCE_I("fence.i", ""), ECALL("ecall", ""), EBREAK("ebreak", ""),

        C_ADDI4SPN("c.addi4spn", "y, f"), C_LW("c.lw", "y, w(x)"), C_SW("c.sw", "y, w(x)"),

        C_NOP("c.nop", ""), C_ADDI("c.addi", "d, n"), C_JAL("c.jal", "C"), C_J("c.j", "C"),
        C_LI("c.li", "d, n"), C_ADDI16SP("c.addi16sp", "p"), C_LUI("c.lui", "d, n"),
        C_SRLI("c.srli", "x, m"), C_SRAI("c.srai", "x, m"), C_ANDI("c.andi", "x, n"),
        C_SUB("c.sub", "x, y"), C_XOR("c.xor", "x, y"), C_OR("c.or", "x, y"),
        C_AND("c.and", "x, y"), C_BEQZ("c.beqz", "x, Z"), C_BNEZ("c.bnez", "x, Z"),

        C_SLLI("c.slli", "d, m"), C_LWSP("c.lwsp", "d, l"), C_JR("c.jr", "d"),
        C_MV("c.mv", "d, r"), C_EBREAK("c.ebreak", ""), C_JALR("c.jalr", "d"),
        C_ADD("c.add", "d, r"), C_SWSP("c.swsp", "r, k");

        final String word;
        final String operands;
        final boolean ordered;

        Kind(String word, String operands) {
            this.word = word;
            this.operands = operands;
            this.ordered = false;
        }

        Kind(String word, String operands, boolean ordered) {
            this.word = word;
            this.operands = operands;
            this.ordered = ordered;
        }

        boolean isInstruction() {
            return this != WORD && this != HALF;
        }

        int operandCount() {
            if (operands.isEmpty()) {
                return 0;
            }
            int count = 1;
            for (int i = 0; i < operands.length(); i++) {
                if (operands.charAt(i) == ',') {
                    count++;
                }
            }
            return count;
        }
    }

    /** Which line 32 bits are made of. */
    private static final class LongKinds {
        static Kind ofWord(int bits) {
            int f = bits >> 12 & 7;
            int g = bits >>> 25;
            switch (bits & 127) {
                case 3: return load(f);
                case 15: return alone(bits);
                case 19: return withNumber(f, g);
                case 23: return Kind.AUIPC;
                case 35: return store(f);
                case 47: return f == 2 ? atomic(g >> 2, bits) : Kind.WORD;
                case 51: return ofRegisters(f, g);
                case 55: return Kind.LUI;
                case 99: return branch(f);
                case 103: return f == 0 ? Kind.JALR : Kind.WORD;
                case 111: return Kind.JAL;
                case 115: return f == 2 ? counter(bits) : alone(bits);
                default: return Kind.WORD;
            }
        }

        private static Kind load(int f) {
            switch (f) {
                case 0: return Kind.LB;
                case 1: return Kind.LH;
                case 2: return Kind.LW;
                case 4: return Kind.LBU;
                case 5: return Kind.LHU;
                default: return Kind.WORD;
            }
        }

        private static Kind alone(int bits) {
            switch (bits) {
                case 267386895: return Kind.FENCE;
                case 4111: return Kind.FENCE_I;
                case 115: return Kind.ECALL;
                case 1048691: return Kind.EBREAK;
                default: return Kind.WORD;
            }
        }

        private static Kind withNumber(int f, int g) {
            switch (f) {
                case 0: return Kind.ADDI;
                case 1: return g == 0 ? Kind.SLLI : Kind.WORD;
                case 2: return Kind.SLTI;
                case 3: return Kind.SLTIU;
                case 4: return Kind.XORI;
                case 5: return shiftRight(g);
                case 6: return Kind.ORI;
                default: return Kind.ANDI;
            }
        }

        private static Kind shiftRight(int g) {
            if (g == 0) {
                return Kind.SRLI;
            }
            return g == 32 ? Kind.SRAI : Kind.WORD;
        }

        private static Kind store(int f) {
            switch (f) {
                case 0: return Kind.SB;
                case 1: return Kind.SH;
                case 2: return Kind.SW;
                default: return Kind.WORD;
            }
        }

        private static Kind atomic(int upperFiveOfG, int bits) {
            switch (upperFiveOfG) {
                case 0: return Kind.AMOADD;
                case 1: return Kind.AMOSWAP;
                case 2: return (bits >> 20 & 31) == 0 ? Kind.LR : Kind.WORD;
                case 3: return Kind.SC;
                case 4: return Kind.AMOXOR;
                case 8: return Kind.AMOOR;
                case 12: return Kind.AMOAND;
                case 16: return Kind.AMOMIN;
                case 20: return Kind.AMOMAX;
                case 24: return Kind.AMOMINU;
                case 28: return Kind.AMOMAXU;
                default: return Kind.WORD;
            }
        }

        private static Kind ofRegisters(int f, int g) {
            switch (g) {
                case 0: return plain(f);
                case 1: return product(f);
                case 32: return secondOfTwo(f);
                default: return Kind.WORD;
            }
        }

        private static Kind plain(int f) {
            switch (f) {
                case 0: return Kind.ADD;
                case 1: return Kind.SLL;
                case 2: return Kind.SLT;
                case 3: return Kind.SLTU;
                case 4: return Kind.XOR;
                case 5: return Kind.SRL;
                case 6: return Kind.OR;
                default: return Kind.AND;
            }
        }

        private static Kind product(int f) {
            switch (f) {
                case 0: return Kind.MUL;
                case 1: return Kind.MULH;
                case 2: return Kind.MULHSU;
                case 3: return Kind.MULHU;
                case 4: return Kind.DIV;
                case 5: return Kind.DIVU;
                case 6: return Kind.REM;
                default: return Kind.REMU;
            }
        }

        private static Kind secondOfTwo(int f) {
            switch (f) {
                case 0: return Kind.SUB;
                case 5: return Kind.SRA;
                default: return Kind.WORD;
            }
        }

        private static Kind branch(int f) {
            switch (f) {
                case 0: return Kind.BEQ;
                case 1: return Kind.BNE;
                case 4: return Kind.BLT;
                case 5: return Kind.BGE;
                case 6: return Kind.BLTU;
                case 7: return Kind.BGEU;
                default: return Kind.WORD;
            }
        }

        private static Kind counter(int bits) {
            if ((bits >> 15 & 31) != 0) {
                return Kind.WORD;
            }
            switch (bits >>> 20) {
                case 3072: return Kind.RDCYCLE;
                case 3073: return Kind.RDTIME;
                case 3074: return Kind.RDINSTRET;
                case 3200: return Kind.RDCYCLEH;
                case 3201: return Kind.RDTIMEH;
                case 3202: return Kind.RDINSTRETH;
                default: return Kind.WORD;
            }
        }
    }

    /** Which line 16 bits are made of. */
    private static final class ShortKinds {
        static Kind ofHalf(int bits) {
            int f = bits >> 13 & 7;
            switch (bits & 3) {
                case 0: return ofQ0(f, bits);
                case 1: return ofQ1(f, bits);
                case 2: return ofQ2(f, bits);
                default: return Kind.HALF;
            }
        }

        private static Kind ofQ0(int f, int bits) {
            switch (f) {
                case 0: return Fields.times4(bits) != 0 ? Kind.C_ADDI4SPN : Kind.HALF;
                case 2: return Kind.C_LW;
                case 6: return Kind.C_SW;
                default: return Kind.HALF;
            }
        }

        private static Kind ofQ1(int f, int bits) {
            switch (f) {
                case 0: return bits == 1 ? Kind.C_NOP : Kind.C_ADDI;
                case 1: return Kind.C_JAL;
                case 2: return Kind.C_LI;
                case 3: return upperOrStack(bits);
                case 4: return onLesserRegister(bits);
                case 5: return Kind.C_J;
                case 6: return Kind.C_BEQZ;
                default: return Kind.C_BNEZ;
            }
        }

        /** Both lines have their number in the same six bits, so that it is 0 for both or none. */
        private static Kind upperOrStack(int bits) {
            if (Fields.six(bits) == 0) {
                return Kind.HALF;
            }
            return firstRegister(bits) == 2 ? Kind.C_ADDI16SP : Kind.C_LUI;
        }

        private static Kind onLesserRegister(int bits) {
            int which = bits >> 10 & 3;
            if (which == 2) {
                return Kind.C_ANDI;
            }
            if (hasBit12(bits)) {
                return Kind.HALF;
            }
            switch (which) {
                case 0: return Kind.C_SRLI;
                case 1: return Kind.C_SRAI;
                default: return ofLesserRegisters(bits >> 5 & 3);
            }
        }

        private static Kind ofLesserRegisters(int which) {
            switch (which) {
                case 0: return Kind.C_SUB;
                case 1: return Kind.C_XOR;
                case 2: return Kind.C_OR;
                default: return Kind.C_AND;
            }
        }

        private static Kind ofQ2(int f, int bits) {
            switch (f) {
                case 0: return hasBit12(bits) ? Kind.HALF : Kind.C_SLLI;
                case 2: return firstRegister(bits) != 0 ? Kind.C_LWSP : Kind.HALF;
                case 4: return hasBit12(bits) ? addOrJump(bits) : moveOrJump(bits);
                case 6: return Kind.C_SWSP;
                default: return Kind.HALF;
            }
        }

        private static Kind moveOrJump(int bits) {
            if (secondRegister(bits) != 0) {
                return Kind.C_MV;
            }
            return firstRegister(bits) != 0 ? Kind.C_JR : Kind.HALF;
        }

        private static Kind addOrJump(int bits) {
            if (secondRegister(bits) != 0) {
                return Kind.C_ADD;
            }
            return firstRegister(bits) != 0 ? Kind.C_JALR : Kind.C_EBREAK;
        }

        private static int firstRegister(int bits) {
            return bits >> 7 & 31;
        }

        private static int secondRegister(int bits) {
            return bits >> 2 & 31;
        }

        private static boolean hasBit12(int bits) {
            return (bits >> 12 & 1) == 1;
        }
    }

    /** Numbers and offsets whose bits do not stand together, or that have a sign. */
    private static final class Fields {
        static int store(int bits) {
            return bits >> 25 << 5 | bits >> 7 & 31;
        }

        static int branch(int bits) {
            return signed(bits, 31, 12) | part(bits, 7, 1, 11) | part(bits, 25, 6, 5)
                    | part(bits, 8, 4, 1);
        }

        static int jump(int bits) {
            return signed(bits, 31, 20) | part(bits, 12, 8, 12) | part(bits, 20, 1, 11)
                    | part(bits, 21, 10, 1);
        }

        static int six(int bits) {
            return signed(bits, 12, 5) | part(bits, 2, 5, 0);
        }

        static int times4(int bits) {
            return part(bits, 11, 2, 4) | part(bits, 7, 4, 6) | part(bits, 6, 1, 2)
                    | part(bits, 5, 1, 3);
        }

        static int times16(int bits) {
            return signed(bits, 12, 9) | part(bits, 6, 1, 4) | part(bits, 5, 1, 6)
                    | part(bits, 3, 2, 7) | part(bits, 2, 1, 5);
        }

        static int shortWord(int bits) {
            return part(bits, 10, 3, 3) | part(bits, 6, 1, 2) | part(bits, 5, 1, 6);
        }

        static int stackLoad(int bits) {
            return part(bits, 12, 1, 5) | part(bits, 4, 3, 2) | part(bits, 2, 2, 6);
        }

        static int stackStore(int bits) {
            return part(bits, 9, 4, 2) | part(bits, 7, 2, 6);
        }

        static int shortJump(int bits) {
            return signed(bits, 12, 11) | part(bits, 11, 1, 4) | part(bits, 9, 2, 8)
                    | part(bits, 8, 1, 10) | part(bits, 7, 1, 6) | part(bits, 6, 1, 7)
                    | part(bits, 3, 3, 1) | part(bits, 2, 1, 5);
        }

        static int shortBranch(int bits) {
            return signed(bits, 12, 8) | part(bits, 10, 2, 3) | part(bits, 5, 2, 6)
                    | part(bits, 3, 2, 1) | part(bits, 2, 1, 5);
        }

        /** As many bits as said, the lowest of them from one place to another. */
        private static int part(int bits, int from, int count, int to) {
            return (bits >>> from & (1 << count) - 1) << to;
        }

        /** The highest bit of a number counts as below 0, so all bits above it are like it. */
        private static int signed(int bits, int from, int to) {
            return -(bits >>> from & 1) << to;
        }
    }

    /** One row of characters is used for every text of an object: a call makes nothing new. */
    private static final class Text {
        // The longest text, amominu.w.aqrl zero, zero, (zero), has 33 characters.
        private static final int ROOM = 40;
        private static final long HIGHEST_UNIT = 1000000000L;

        private final char[] row;
        private int length;

        Text() {
            row = new char[ROOM];
            length = 0;
        }

        int size() {
            return length;
        }

        char character(int k) {
            return k >= 0 && k < length && k < row.length ? row[k] : ' ';
        }

        void write(Kind kind, int bits) {
            length = 0;
            word(kind.word);
            if (kind.ordered) {
                order(bits >> 25 & 3);
            }
            String operands = kind.operands;
            if (!operands.isEmpty()) {
                put(' ');
            }
            for (int i = 0; i < operands.length(); i++) {
                operand(operands.charAt(i), bits);
            }
        }

        private void order(int aqAndRl) {
            switch (aqAndRl) {
                case 1: word(".rl"); break;
                case 2: word(".aq"); break;
                case 3: word(".aqrl"); break;
                default: break;
            }
        }

        private void operand(char sign, int bits) {
            switch (sign) {
                case 'd': register(bits >> 7 & 31); break;
                case 'a': register(bits >> 15 & 31); break;
                case 'b': register(bits >> 20 & 31); break;
                case 'r': register(bits >> 2 & 31); break;
                case 'x': register(8 + (bits >> 7 & 7)); break;
                case 'y': register(8 + (bits >> 2 & 7)); break;
                case 'i': number(bits >> 20); break;
                case 'h': number(bits >> 20 & 31); break;
                case 's': number(Fields.store(bits)); break;
                case 'u': number(bits >>> 12); break;
                case 'n': number(Fields.six(bits)); break;
                case 'm': number(bits >> 2 & 31); break;
                case 'f': number(Fields.times4(bits)); break;
                case 'p': number(Fields.times16(bits)); break;
                case 'w': number(Fields.shortWord(bits)); break;
                case 'l': number(Fields.stackLoad(bits)); break;
                case 'k': number(Fields.stackStore(bits)); break;
                case 'B': offset(Fields.branch(bits)); break;
                case 'J': offset(Fields.jump(bits)); break;
                case 'C': offset(Fields.shortJump(bits)); break;
                case 'Z': offset(Fields.shortBranch(bits)); break;
                case 'v': digits(bits & 0xffffffffL); break;
                default: put(sign); break;
            }
        }

        private void register(int r) {
            word(registerName(r));
        }

        private static String registerName(int r) {
            switch (r) {
                case 0: return "zero";
                case 1: return "ra";
                case 2: return "sp";
                case 3: return "gp";
                case 4: return "tp";
                case 5: return "t0";
                case 6: return "t1";
                case 7: return "t2";
                case 8: return "s0";
                case 9: return "s1";
                case 10: return "a0";
                case 11: return "a1";
                case 12: return "a2";
                case 13: return "a3";
                case 14: return "a4";
                case 15: return "a5";
                case 16: return "a6";
                case 17: return "a7";
                case 18: return "s2";
                case 19: return "s3";
                case 20: return "s4";
                case 21: return "s5";
                case 22: return "s6";
                case 23: return "s7";
                case 24: return "s8";
                case 25: return "s9";
                case 26: return "s10";
                case 27: return "s11";
                case 28: return "t3";
                case 29: return "t4";
                case 30: return "t5";
                default: return "t6";
            }
        }

        private void number(int e) {
            if (e < 0) {
                put('-');
            }
            digits(Math.abs(e));
        }

        private void offset(int t) {
            put('.');
            put(t < 0 ? '-' : '+');
            digits(Math.abs(t));
        }

        private void digits(long v) {
            for (long unit = HIGHEST_UNIT; unit > 0; unit /= 10) {
                if (v >= unit || unit == 1) {
                    put((char) ('0' + v / unit % 10));
                }
            }
        }

        private void word(String letters) {
            for (int i = 0; i < letters.length(); i++) {
                put(letters.charAt(i));
            }
        }

        private void put(char c) {
            if (length >= 0 && length < row.length) {
                row[length] = c;
                length++;
            }
        }
    }
}
