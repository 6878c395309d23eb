import java.io.IOException;
import java.nio.file.Files;
import java.nio.file.Path;
import java.util.regex.Matcher;
import java.util.regex.Pattern;

/**
 * What README.md says of answers: every line of its java blocks is called, and every row of its
 * tables is read. A line that is not understood is a fault, so that none stands there unasked.
 */
public final class ReadmeTest {
    private static final Path README = Path.of("README.md");
    private static final int FEWEST_CALLS = 50;
    private static final int FEWEST_ROWS = 20;

    private static final String NEW_OBJECT = "InstructionReader x = new InstructionReader();";
    private static final Pattern CALL =
            Pattern.compile("x\\.(\\w+)\\((-?\\w+)(?:, (-?\\w+))?\\); *(?:// (.*))?");
    private static final Pattern ANSWER = Pattern.compile("(-?\\d+|'.'|throws \\w+)(?:,.*)?");
    private static final Pattern TEXT = Pattern.compile("the text is (?:still )?\"(.*)\"");
    private static final Pattern ROW = Pattern.compile(
            "\\| `(\\w+)` \\| `(.*)` \\| (\\d) \\| (\\d) \\| (\\d) \\|");

    private static InstructionReader x = new InstructionReader();
    private static int calls = 0;
    private static int rows = 0;

    public static void main(String[] args) throws IOException {
        boolean inBlock = false;
        for (String line : Files.readAllLines(README)) {
            Check.sentence("README.md: " + line);
            if (line.startsWith("```")) {
                inBlock = line.equals("```java");
            } else if (inBlock) {
                lineOfBlock(line);
            } else if (line.startsWith("| `")) {
                row(line);
            }
        }
        Check.sentence("README.md");
        Check.same("calls enough", calls >= FEWEST_CALLS ? 1 : 0, 1);
        Check.same("rows enough", rows >= FEWEST_ROWS ? 1 : 0, 1);
        Check.finish();
    }

    private static void lineOfBlock(String line) {
        if (line.equals(NEW_OBJECT)) {
            x = new InstructionReader();
            return;
        }
        Matcher call = CALL.matcher(line);
        if (!call.matches()) {
            Check.same("a line of a block", line, NEW_OBJECT + " or a call");
            return;
        }
        calls++;
        String got = answer(call.group(1), number(call.group(2)), call.group(3));
        String said = call.group(4) == null ? "" : call.group(4);
        Matcher due = ANSWER.matcher(said);
        boolean answers = due.matches();
        boolean isPoke = call.group(1).equals("poke");
        Check.same(line, got, answers ? due.group(1) : isPoke ? "nothing" : "an answer");
        Matcher text = TEXT.matcher(said);
        if (text.find()) {
            Check.same(line, Check.text(x), text.group(1));
        }
    }

    private static String answer(String name, int first, String second) {
        try {
            return second == null ? ofOne(name, first) : ofTwo(name, first, number(second));
        } catch (RuntimeException e) {
            return "throws " + e.getClass().getSimpleName();
        }
    }

    private static String ofOne(String name, int first) {
        switch (name) {
            case "read": return "" + x.read(first);
            case "letter": return "'" + x.letter(first) + "'";
            case "about": return "" + x.about(first);
            case "at": return "" + x.at(first);
            case "numbers": return "" + x.numbers(first);
            default: return "no such call";
        }
    }

    private static String ofTwo(String name, int first, int second) {
        switch (name) {
            case "poke":
                x.poke(first, second);
                return "nothing";
            case "next": return "" + x.next(first, second);
            case "before": return "" + x.before(first, second);
            default: return "no such call";
        }
    }

    private static void row(String line) {
        Matcher row = ROW.matcher(line);
        if (!row.matches()) {
            Check.same("a row of a table", line, "bits, text, bytes, instruction, operands");
            return;
        }
        rows++;
        Check.reads(number(row.group(1)), row.group(2), number(row.group(3)), number(row.group(4)),
                number(row.group(5)));
    }

    /** Bits are written unsigned, as 0xffffffff is. */
    private static int number(String digits) {
        return (int) (long) Long.decode(digits);
    }
}
