import java.util.List;

/** Promise 2: the text of long bits, against an assembler of the test's own. */
public final class Promise2LongTest {
    private static final int[] OPCODES = {3, 15, 19, 23, 35, 47, 51, 55, 99, 103, 111, 115};
    private static final List<Lines.Line> LINES = Lines.longOnes();
    private static final Dice DICE = new Dice(20261115);

    public static void main(String[] args) {
        for (Lines.Line line : LINES) {
            edges(line);
            registers(line);
            for (int i = 0; i < 60; i++) {
                reads(line, DICE.below(32), DICE.below(32), DICE.below(32), numberOf(line));
            }
        }
        neighbours();
        for (int i = 0; i < 60000; i++) {
            anyBits(DICE.bits() | 3);
            anyBits(DICE.bits() & ~127 | OPCODES[DICE.below(OPCODES.length)]);
            anyBits(DICE.bits() & 0x01ffff80 | DICE.below(5) % 3 << 25 | 51 - 32 * DICE.below(2));
        }
        for (int bits = 3; bits < 1 << 16; bits += 4) {
            anyBits(bits);
            anyBits(bits | 3072 << 20);
            anyBits(bits | 2 << 27);
        }
        Check.finish();
    }

    private static void edges(Lines.Line line) {
        int[] numbers = {line.low(), line.low() + line.step(), -line.step(), 0, line.step(),
            line.high() - line.step(), line.high()};
        for (int e : numbers) {
            if (e >= line.low() && e <= line.high()) {
                reads(line, 0, 0, 0, e);
                reads(line, 31, 31, 31, e);
            }
        }
        for (int bit = 0; bit < 21; bit++) {
            int e = 1 << bit;
            if (e <= line.high() && e % line.step() == 0) {
                reads(line, 10, 11, 12, e);
            }
        }
    }

    private static void registers(Lines.Line line) {
        for (int r = 0; r < 32; r++) {
            reads(line, r, 31 - r, r ^ 5, 0);
        }
    }

    private static int numberOf(Lines.Line line) {
        return line.low() + line.step() * DICE.below((line.high() - line.low()) / line.step() + 1);
    }

    private static void reads(Lines.Line line, int d, int a, int b, int e) {
        Lines.Operands o = new Lines.Operands(d, a, b, e);
        Check.reads(line.encode(o), line.text(o), 4, 1, line.count());
    }

    /** Every line with each one of its said bits turned, and each of the others. */
    private static void neighbours() {
        for (Lines.Line line : LINES) {
            int bits = line.encode(new Lines.Operands(5, 6, 7, 0));
            for (int k = 2; k < 32; k++) {
                anyBits(bits ^ 1 << k);
            }
            for (int f = 0; f < 8; f++) {
                anyBits(bits & ~(7 << 12) | f << 12);
            }
            for (int g = 0; g < 128; g++) {
                anyBits(bits & ~(127 << 25) | g << 25);
            }
        }
    }

    private static void anyBits(int bits) {
        Due due = Due.of(bits);
        Check.reads(bits, due.text(), due.bytes(), due.isLine() ? 1 : 0, due.operands());
    }
}
