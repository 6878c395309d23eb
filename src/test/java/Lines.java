import java.util.ArrayList;
import java.util.List;

/**
 * An assembler of its own, written the other way round than the reader: from the document's lines
 * to bits. A line is a name, its operands as the document writes them, the bits that are said, and
 * where the letters go.
 */
final class Lines {
    static final String[] REGISTERS = ("zero ra sp gp tp t0 t1 t2 s0 s1 a0 a1 a2 a3 a4 a5 a6 a7 "
            + "s2 s3 s4 s5 s6 s7 s8 s9 s10 s11 t3 t4 t5 t6").split(" ");

    /** Registers and a number; a letter that a line does not have is not looked at. */
    record Operands(int d, int a, int b, int e) {
    }

    /**
     * places: where each letter goes, such as "d@11..7" (a register), "d'@4..2" (one of 8 .. 15),
     * "e[5:3]@12" (the bits 5 .. 3 of the number from bit 12 downwards).
     */
    record Line(String name, String operands, int said, String places, int low, int high, int step) {
        boolean has(char letter) {
            return operands.indexOf(letter) >= 0;
        }

        boolean lesser(char letter) {
            return places.contains(letter + "'");
        }

        int count() {
            return operands.isEmpty() ? 0 : operands.split(", ").length;
        }

        int encode(Operands o) {
            int bits = said;
            for (String place : places.isEmpty() ? new String[0] : places.split(" ")) {
                bits |= placed(place, o);
            }
            return bits;
        }

        /** The bits that no operand changes. */
        int mask() {
            int ones = lesser('d') || lesser('a') || lesser('b') ? 15 : 31;
            int varied = encode(new Operands(31, 31, ones, -1)) | encode(new Operands(ones, ones, 31, -1));
            return ~(varied ^ said);
        }

        /** The other way round, for long ones: each bit of an operand is where it alone goes. */
        Operands decode(int bits) {
            int d = 0;
            int a = 0;
            int b = 0;
            int e = 0;
            for (int i = 0; i < 32; i++) {
                int one = 1 << i;
                d |= i < 5 && (bits & goes(new Operands(one, 0, 0, 0))) != 0 ? one : 0;
                a |= i < 5 && (bits & goes(new Operands(0, one, 0, 0))) != 0 ? one : 0;
                b |= i < 5 && (bits & goes(new Operands(0, 0, one, 0))) != 0 ? one : 0;
                e |= i < 31 && (bits & goes(new Operands(0, 0, 0, one))) != 0 ? one : 0;
            }
            return new Operands(d, a, b, e > high ? e - (high - low + step) : e);
        }

        private int goes(Operands o) {
            return encode(o) ^ said;
        }

        String text(Operands o) {
            StringBuilder all = new StringBuilder(name);
            if (!operands.isEmpty()) {
                all.append(' ');
            }
            for (char c : operands.toCharArray()) {
                switch (c) {
                    case 'd' -> all.append(REGISTERS[o.d]);
                    case 'a' -> all.append(REGISTERS[o.a]);
                    case 'b' -> all.append(REGISTERS[o.b]);
                    case 'e' -> all.append(o.e);
                    case 't' -> all.append('.').append(o.e < 0 ? "" : "+").append(o.e);
                    default -> all.append(c);
                }
            }
            return all.toString();
        }
    }

    private Lines() {
    }

    private static int placed(String place, Operands o) {
        String[] sides = place.split("@");
        if (sides[0].startsWith("e")) {
            int to = Integer.parseInt(sides[1]);
            return spread(o.e, sides[0].substring(2, sides[0].length() - 1), to);
        }
        int value = switch (sides[0].charAt(0)) {
            case 'd' -> o.d;
            case 'a' -> o.a;
            default -> o.b;
        };
        boolean lesser = sides[0].endsWith("'");
        return (lesser ? value - 8 & 7 : value & 31) << Integer.parseInt(sides[1]);
    }

    /** As the document writes it: [5:4|9:6|2|3], the first of them going to the highest place. */
    private static int spread(int e, String parts, int highest) {
        int bits = 0;
        int to = highest;
        for (String part : parts.split("\\|")) {
            String[] ends = part.split(":");
            int last = Integer.parseInt(ends[ends.length - 1]);
            for (int from = Integer.parseInt(ends[0]); from >= last; from--) {
                bits |= (e >>> from & 1) << to;
                to--;
            }
        }
        return bits;
    }

    private static Line line(String name, String operands, int said, String places) {
        return new Line(name, operands, said, places, 0, 0, 1);
    }

    static List<Line> longOnes() {
        List<Line> all = new ArrayList<>();
        registerLines(all);
        numberLines(all);
        jumpLines(all);
        atomicLines(all);
        String[] counters = "rdcycle rdtime rdinstret rdcycleh rdtimeh rdinstreth".split(" ");
        int[] numbers = {3072, 3073, 3074, 3200, 3201, 3202};
        for (int i = 0; i < counters.length; i++) {
            all.add(line(counters[i], "d", 115 | 2 << 12 | numbers[i] << 20, "d@7"));
        }
        all.add(line("fence", "", 267386895, ""));
        all.add(line("fence.i", "", 4111, ""));
        all.add(line("ecall", "", 115, ""));
        all.add(line("ebreak", "", 1048691, ""));
        return all;
    }

    private static void registerLines(List<Line> all) {
        String[] names = "add sub sll slt sltu xor srl sra or and".split(" ");
        int[] f = {0, 0, 1, 2, 3, 4, 5, 5, 6, 7};
        int[] g = {0, 32, 0, 0, 0, 0, 0, 32, 0, 0};
        for (int i = 0; i < names.length; i++) {
            all.add(line(names[i], "d, a, b", 51 | f[i] << 12 | g[i] << 25, "d@7 a@15 b@20"));
        }
        String[] products = "mul mulh mulhsu mulhu div divu rem remu".split(" ");
        for (int i = 0; i < products.length; i++) {
            all.add(line(products[i], "d, a, b", 51 | i << 12 | 1 << 25, "d@7 a@15 b@20"));
        }
    }

    private static void numberLines(List<Line> all) {
        String twelve = " e[11:0]@31";
        family(all, "addi 0 slti 2 sltiu 3 xori 4 ori 6 andi 7", "d, a, e", 19, "d@7 a@15" + twelve);
        shift(all, "slli", 19 | 1 << 12);
        shift(all, "srli", 19 | 5 << 12);
        shift(all, "srai", 19 | 5 << 12 | 32 << 25);
        family(all, "lb 0 lh 1 lw 2 lbu 4 lhu 5", "d, e(a)", 3, "d@7 a@15" + twelve);
        family(all, "jalr 0", "d, e(a)", 103, "d@7 a@15" + twelve);
        family(all, "sb 0 sh 1 sw 2", "b, e(a)", 35, "b@20 a@15 e[11:5]@31 e[4:0]@11");
        all.add(new Line("lui", "d, e", 55, "d@7 e[19:0]@31", 0, 1048575, 1));
        all.add(new Line("auipc", "d, e", 23, "d@7 e[19:0]@31", 0, 1048575, 1));
    }

    private static void family(List<Line> all, String names, String operands, int said, String places) {
        String[] words = names.split(" ");
        for (int i = 0; i < words.length; i += 2) {
            int f = Integer.parseInt(words[i + 1]);
            all.add(new Line(words[i], operands, said | f << 12, places, -2048, 2047, 1));
        }
    }

    private static void shift(List<Line> all, String name, int said) {
        all.add(new Line(name, "d, a, e", said, "d@7 a@15 e[4:0]@24", 0, 31, 1));
    }

    private static void jumpLines(List<Line> all) {
        String[] names = "beq bne blt bge bltu bgeu".split(" ");
        int[] f = {0, 1, 4, 5, 6, 7};
        String places = "a@15 b@20 e[12|10:5]@31 e[4:1|11]@11";
        for (int i = 0; i < names.length; i++) {
            all.add(new Line(names[i], "a, b, t", 99 | f[i] << 12, places, -4096, 4094, 2));
        }
        all.add(new Line("jal", "d, t", 111, "d@7 e[20|10:1|11|19:12]@31", -1048576, 1048574, 2));
    }

    private static void atomicLines(List<Line> all) {
        String[] names = ("sc.w amoswap.w amoadd.w amoxor.w amoand.w amoor.w amomin.w amomax.w "
                + "amominu.w amomaxu.w").split(" ");
        int[] upper = {3, 1, 0, 4, 12, 8, 16, 20, 24, 28};
        String[] orders = {"", ".rl", ".aq", ".aqrl"};
        for (int order = 0; order < orders.length; order++) {
            int said = 47 | 2 << 12 | order << 25;
            for (int i = 0; i < names.length; i++) {
                all.add(line(names[i] + orders[order], "d, b, (a)", said | upper[i] << 27, "d@7 a@15 b@20"));
            }
            all.add(line("lr.w" + orders[order], "d, (a)", said | 2 << 27, "d@7 a@15"));
        }
    }

    /** What stands there for each of the 65536 halves; null if there is no line. */
    static Shorts shortOnes() {
        Shorts s = new Shorts();
        String n = " e[5]@12 e[4:0]@6";
        String jump = "e[11|4|9:8|10|6|7|3:1|5]@12";
        String branch = "a'@7 e[8|4:3]@12 e[7:6|2:1|5]@6";
        s.add(new Line("c.addi4spn", "d, e", 0, "d'@2 e[5:4|9:6|2|3]@12", 4, 1020, 4));
        s.add(new Line("c.lw", "d, e(a)", 2 << 13, "d'@2 a'@7 e[5:3]@12 e[2]@6 e[6]@5", 0, 124, 4));
        s.add(new Line("c.sw", "b, e(a)", 6 << 13, "b'@2 a'@7 e[5:3]@12 e[2]@6 e[6]@5", 0, 124, 4));
        s.add(new Line("c.addi", "d, e", 1, "d@7" + n, -32, 31, 1));
        s.force(line("c.nop", "", 1, ""));
        s.add(new Line("c.jal", "t", 1 | 1 << 13, jump, -2048, 2046, 2));
        s.add(new Line("c.j", "t", 1 | 5 << 13, jump, -2048, 2046, 2));
        s.add(new Line("c.li", "d, e", 1 | 2 << 13, "d@7" + n, -32, 31, 1));
        s.addWithoutZeroNumber(new Line("c.addi16sp", "e", 1 | 3 << 13 | 2 << 7,
                "e[9]@12 e[4|6|8:7|5]@6", -512, 496, 16), -1);
        s.addWithoutZeroNumber(new Line("c.lui", "d, e", 1 | 3 << 13, "d@7" + n, -32, 31, 1), 2);
        s.add(new Line("c.srli", "a, e", 1 | 4 << 13, "a'@7 e[4:0]@6", 0, 31, 1));
        s.add(new Line("c.srai", "a, e", 1 | 4 << 13 | 1 << 10, "a'@7 e[4:0]@6", 0, 31, 1));
        s.add(new Line("c.andi", "a, e", 1 | 4 << 13 | 2 << 10, "a'@7" + n, -32, 31, 1));
        String[] names = "c.sub c.xor c.or c.and".split(" ");
        for (int i = 0; i < names.length; i++) {
            s.add(line(names[i], "a, b", 1 | 4 << 13 | 3 << 10 | i << 5, "a'@7 b'@2"));
        }
        s.add(new Line("c.beqz", "a, t", 1 | 6 << 13, branch, -256, 254, 2));
        s.add(new Line("c.bnez", "a, t", 1 | 7 << 13, branch, -256, 254, 2));
        s.add(new Line("c.slli", "d, e", 2, "d@7 e[4:0]@6", 0, 31, 1));
        s.addWithoutZero(new Line("c.lwsp", "d, e", 2 | 2 << 13, "d@7 e[5]@12 e[4:2|7:6]@6", 0, 252, 4), true, false);
        s.addWithoutZero(line("c.jr", "d", 2 | 4 << 13, "d@7"), true, false);
        s.addWithoutZero(line("c.mv", "d, b", 2 | 4 << 13, "d@7 b@2"), false, true);
        s.add(line("c.ebreak", "", 36866, ""));
        s.addWithoutZero(line("c.jalr", "d", 2 | 4 << 13 | 1 << 12, "d@7"), true, false);
        s.addWithoutZero(line("c.add", "d, b", 2 | 4 << 13 | 1 << 12, "d@7 b@2"), false, true);
        s.add(new Line("c.swsp", "b, e", 2 | 6 << 13, "b@2 e[5:2|7:6]@12", 0, 252, 4));
        return s;
    }

    static final class Shorts {
        final String[] text = new String[65536];
        final int[] count = new int[65536];

        void add(Line line) {
            fill(line, false, false, -1, false);
        }

        void addWithoutZero(Line line, boolean noZeroD, boolean noZeroB) {
            fill(line, noZeroD, noZeroB, -1, false);
        }

        void addWithoutZeroNumber(Line line, int notD) {
            fill(line, false, false, notD, true);
        }

        void force(Line line) {
            text[line.said] = line.name;
            count[line.said] = 0;
        }

        private void fill(Line line, boolean noZeroD, boolean noZeroB, int notD, boolean noZeroE) {
            for (int d : registers(line, 'd', noZeroD)) {
                for (int a : registers(line, 'a', false)) {
                    for (int b : registers(line, 'b', noZeroB)) {
                        for (int e = line.low; e <= line.high; e += line.step) {
                            if (!(line.has('d') && d == notD) && !(noZeroE && e == 0)) {
                                put(line, new Operands(d, a, b, e));
                            }
                        }
                    }
                }
            }
        }

        private void put(Line line, Operands o) {
            int bits = line.encode(o);
            if (bits < 0 || bits > 65535 || text[bits] != null) {
                throw new IllegalStateException("two lines for " + bits + ": " + line.text(o));
            }
            text[bits] = line.text(o);
            count[bits] = line.count();
        }

        private static int[] registers(Line line, char letter, boolean notZero) {
            if (!line.has(letter)) {
                return new int[] {0};
            }
            int first = line.lesser(letter) ? 8 : notZero ? 1 : 0;
            int last = line.lesser(letter) ? 15 : 31;
            int[] all = new int[last - first + 1];
            for (int i = 0; i < all.length; i++) {
                all[i] = first + i;
            }
            return all;
        }
    }
}
