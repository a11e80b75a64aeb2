import java.io.IOException;
import java.nio.charset.StandardCharsets;
import java.nio.file.Files;
import java.nio.file.Path;
import java.util.ArrayList;
import java.util.List;
import java.util.regex.Matcher;
import java.util.regex.Pattern;

/** Turns the calls that README.md shows, each with the answer that it tells, into the source of a test. */
public final class ReadmeCalls {
    static final String CLASS = "ReadmeShown";

    private static final Pattern NEW = Pattern.compile("OrderJudge \\w+ = new OrderJudge\\(\\);");
    private static final Pattern LOOP = Pattern.compile("for \\(int k = \\d+; k < \\d+; k\\+\\+\\) \\{|\\}");
    private static final Pattern CALL = Pattern.compile("(?:(int|long) (\\w+) = )?(\\w+\\.\\w+\\([^;]*\\)); *// (.*)");
    private static final Pattern ANSWER = Pattern.compile("(-?\\d+|k|NONE|BAD|FULL|NOT)(:.*)?");
    private static final Pattern THROWN = Pattern.compile("throws (\\w+)(:.*)?");

    private ReadmeCalls() {
    }

    /** Prints the test's source. */
    public static void main(String[] args) throws IOException {
        System.out.println(source(Files.readString(Path.of(args[0]), StandardCharsets.UTF_8)));
    }

    /** The lines of all blocks of Java. */
    static List<String> shown(String text) {
        List<String> lines = new ArrayList<>();
        boolean within = false;
        for (String line : text.split("\n")) {
            boolean fence = line.startsWith("```");
            if (within && !fence && !line.isBlank()) {
                lines.add(line.strip());
            }
            within = fence ? line.equals("```java") : within;
        }
        return lines;
    }

    static String source(String text) {
        StringBuilder source = new StringBuilder();
        source.append("public final class ").append(CLASS).append(" {\n");
        source.append("    public static void main(String[] args) {\n");
        source.append("        Check check = new Check(\"README.md\");\n");
        for (String line : shown(text)) {
            source.append("        ").append(statement(line)).append('\n');
        }
        return source.append("        check.end();\n    }\n}").toString();
    }

    /** A line that tells no answer is refused: what a README shows and does not tell could not be tested. */
    static String statement(String line) {
        if (NEW.matcher(line).matches() || LOOP.matcher(line).matches()) {
            return line;
        }
        Matcher call = CALL.matcher(line);
        if (!call.matches()) {
            throw new IllegalArgumentException("no new object, no loop, and no call with its answer: " + line);
        }
        Matcher thrown = THROWN.matcher(call.group(4));
        if (thrown.matches() && call.group(1) == null) {
            return "check.raises(\"" + call.group(3) + "\", " + thrown.group(1) + ".class, () -> " + call.group(3) + ");";
        }
        Matcher answer = ANSWER.matcher(call.group(4));
        if (!answer.matches()) {
            throw new IllegalArgumentException("no answer is told: " + line);
        }
        return compared(call, constant(answer.group(1)));
    }

    private static String compared(Matcher call, String due) {
        if (call.group(1) == null) {
            return "check.is(\"" + call.group(3) + "\", " + call.group(3) + ", " + due + ");";
        }
        String kept = call.group(1) + " " + call.group(2) + " = " + call.group(3) + ";";
        return kept + " check.is(\"" + call.group(3) + "\", " + call.group(2) + ", " + due + ");";
    }

    private static String constant(String told) {
        return Character.isUpperCase(told.charAt(0)) ? "OrderJudge." + told : told;
    }
}
