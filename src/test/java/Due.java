import java.util.List;

/** What the text of bits must be, found with the assembler of the tests' own. */
record Due(String text, int bytes, boolean isLine, int operands) {
    private static final List<Lines.Line> LONG_ONES = Lines.longOnes();
    private static final int[] MASKS = LONG_ONES.stream().mapToInt(Lines.Line::mask).toArray();
    private static final Lines.Shorts SHORT_ONES = Lines.shortOnes();

    static Due of(int bits) {
        return (bits & 3) == 3 ? ofLong(bits) : ofShort(bits & 65535);
    }

    private static Due ofLong(int bits) {
        for (int i = 0; i < MASKS.length; i++) {
            Lines.Line line = LONG_ONES.get(i);
            if ((bits & MASKS[i]) == line.said()) {
                return new Due(textOf(line, bits), 4, true, line.count());
            }
        }
        return new Due(".word " + Integer.toUnsignedString(bits), 4, false, 1);
    }

    /** A line counts only if it becomes just these bits again. */
    private static String textOf(Lines.Line line, int bits) {
        Lines.Operands operands = line.decode(bits);
        if (line.encode(operands) != bits) {
            throw new IllegalStateException(line.name() + " does not become " + bits);
        }
        return line.text(operands);
    }

    private static Due ofShort(int half) {
        String text = SHORT_ONES.text[half];
        if (text == null) {
            return new Due(".half " + half, 2, false, 1);
        }
        return new Due(text, 2, true, SHORT_ONES.count[half]);
    }
}
