import java.io.File;
import java.io.IOException;
import java.nio.file.Files;
import java.nio.file.Path;
import java.util.List;
import java.util.TreeSet;
import java.util.regex.Matcher;
import java.util.regex.Pattern;

/** What README.md says of the class's use and of its tests is so; run in the project's root. */
public final class ReadmeTest {
    private static final String MAKING = "PortTimers chip = new PortTimers();";
    private static final Pattern CALL = Pattern.compile("chip\\.(\\w+)\\((.*)\\); +// (.*)");
    private static final Pattern ANSWER = Pattern.compile("(true|false|0x[0-9A-F]+|[0-9]+)\\b.*");
    private static final Pattern CLASS_NAMED = Pattern.compile("`([A-Z][A-Za-z0-9]*Test)`");
    private static final String NO_ANSWER = "none";

    public static void main(String[] args) throws IOException {
        List<String> lines = Files.readAllLines(Path.of("README.md"));
        theExampleIsSo(lines);
        theTestsNamedAreThere(String.join(" ", lines));
        Check.end();
    }

    private static void theExampleIsSo(List<String> lines) {
        int first = lines.indexOf("```java") + 1;
        Check.due("the example's first line", lines.get(first), MAKING);
        PortTimers chip = new PortTimers();
        int calls = 0;
        for (int i = first + 1; !lines.get(i).equals("```"); i++) {
            if (!lines.get(i).isEmpty()) {
                theLineIsSo(chip, lines.get(i));
                calls++;
            }
        }
        Check.due("the example has calls", calls > 0, true);
    }

    private static void theLineIsSo(PortTimers chip, String line) {
        Matcher parts = CALL.matcher(line);
        if (!parts.matches()) {
            Check.due("README.md's line " + line, "no call with a comment", "a call");
            return;
        }
        Matcher answer = ANSWER.matcher(parts.group(3));
        String due = answer.matches() ? number(answer.group(1)) + "" : NO_ANSWER;
        Check.due("README.md's " + line, answerOf(chip, parts.group(1), parts.group(2)), due);
    }

    private static String answerOf(PortTimers chip, String name, String arguments) {
        String[] texts = arguments.split(", ");
        int first = number(texts[0]);
        int second = texts.length > 1 ? number(texts[1]) : 0;
        switch (name) {
            case "write":
                chip.write(first, second);
                return NO_ANSWER;
            case "pins":
                chip.pins(first, second);
                return NO_ANSWER;
            case "reset":
                chip.reset();
                return NO_ANSWER;
            case "line": return (chip.line(first, second == 1) ? 1 : 0) + "";
            case "read": return chip.read(first) + "";
            case "step": return chip.step(first) + "";
            case "out": return chip.out(first) + "";
            case "told": return chip.told(first) + "";
            default: return "no call of the face";
        }
    }

    private static int number(String text) {
        if (text.isEmpty() || text.equals("false")) {
            return 0;
        }
        return text.equals("true") ? 1 : Integer.decode(text);
    }

    private static void theTestsNamedAreThere(String text) {
        TreeSet<String> named = new TreeSet<>();
        Matcher names = CLASS_NAMED.matcher(text);
        while (names.find()) {
            named.add(names.group(1));
        }
        TreeSet<String> there = new TreeSet<>();
        for (String file : new File("src/test/java").list()) {
            // Of the promises' tests README.md names the first one and the last one alone.
            if (file.endsWith("Test.java") && !file.matches("(Promise|Edges)[2-8].*")) {
                there.add(file.substring(0, file.length() - ".java".length()));
            }
        }
        Check.due("the tests named in README.md", named.toString(), there.toString());
    }
}
