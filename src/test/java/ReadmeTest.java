import java.io.IOException;
import java.lang.reflect.Method;
import java.lang.reflect.Modifier;
import java.nio.charset.StandardCharsets;
import java.nio.file.Files;
import java.nio.file.Path;
import java.util.List;
import java.util.Set;
import java.util.TreeSet;
import java.util.regex.Matcher;
import java.util.regex.Pattern;
import java.util.stream.Collectors;
import java.util.stream.Stream;

/** README.md shows every call and tells every test; what it shows is made into a test rightly. */
public final class ReadmeTest {
    private static final Check CHECK = new Check("ReadmeTest");

    public static void main(String[] args) throws IOException {
        String readme = Files.readString(Path.of("README.md"), StandardCharsets.UTF_8);
        everyCallIsShown(ReadmeCalls.shown(readme));
        everyRefusalIsShown(ReadmeCalls.shown(readme));
        everyTestIsTold(readme);
        constantsAreTold(readme);
        statements();
        blocks();
        CHECK.end();
    }

    private static void everyCallIsShown(List<String> shown) {
        Set<String> names = new TreeSet<>();
        for (String line : shown) {
            Matcher call = Pattern.compile("judge\\.(\\w+)\\(").matcher(line);
            while (call.find()) {
                names.add(call.group(1));
            }
        }
        Set<String> face = new TreeSet<>();
        for (Method method : OrderJudge.class.getDeclaredMethods()) {
            if (Modifier.isPublic(method.getModifiers())) {
                face.add(method.getName());
            }
        }
        CHECK.holds("calls shown " + names + ", due " + face, names.equals(face));
    }

    private static void everyRefusalIsShown(List<String> shown) {
        String[] told = {"BAD", "FULL", "NOT", "throws NegativeArraySizeException", "throws ArrayIndexOutOfBoundsException",
            "throws NullPointerException", "throws ArithmeticException"};
        for (String answer : told) {
            CHECK.holds("shows " + answer, shown.stream().anyMatch(line -> line.contains("// " + answer)));
        }
    }

    private static void everyTestIsTold(String readme) throws IOException {
        Set<String> told = new TreeSet<>();
        Matcher row = Pattern.compile("(?m)^\\| `(\\w+Test)` \\|").matcher(readme);
        while (row.find()) {
            told.add(row.group(1));
        }
        Set<String> due;
        try (Stream<Path> files = Files.list(Path.of("src/test/java"))) {
            due = files.map(file -> file.getFileName().toString()).filter(name -> name.endsWith("Test.java"))
                .map(name -> name.replace(".java", "")).collect(Collectors.toCollection(TreeSet::new));
        }
        CHECK.holds("tests told " + told + ", due " + due, told.equals(due));
    }

    private static void constantsAreTold(String readme) {
        CHECK.holds("NONE", readme.contains("| `NONE` (" + OrderJudge.NONE + ") |"));
        CHECK.holds("BAD", readme.contains("| `BAD` (" + OrderJudge.BAD + ") |"));
        CHECK.holds("FULL", readme.contains("| `FULL` (" + OrderJudge.FULL + ") |"));
        CHECK.holds("NOT", readme.contains("| `NOT` (" + OrderJudge.NOT + ") |"));
    }

    private static void statements() {
        become("OrderJudge judge = new OrderJudge();", "OrderJudge judge = new OrderJudge();");
        become("judge.side(a, b, c);   // -1: to the right", "check.is(\"judge.side(a, b, c)\", judge.side(a, b, c), -1);");
        become("judge.count(4); // BAD", "check.is(\"judge.count(4)\", judge.count(4), OrderJudge.BAD);");
        become("int a = judge.point(0, 0, 1); // 0", "int a = judge.point(0, 0, 1); check.is(\"judge.point(0, 0, 1)\", a, 0);");
        become("judge.size(-1); // throws NegativeArraySizeException: why",
            "check.raises(\"judge.size(-1)\", NegativeArraySizeException.class, () -> judge.size(-1));");
        become("for (int k = 4; k < 12; k++) {", "for (int k = 4; k < 12; k++) {");
        become("judge.line(a, b); // k: words", "check.is(\"judge.line(a, b)\", judge.line(a, b), k);");
        refuse("judge.count(0);");
        refuse("judge.count(0); // the points");
        refuse("judge.count(0); // 3 points");
        refuse("judge.count(0); // BADLY");
        refuse("int n = judge.size(-1); // throws NegativeArraySizeException");
        refuse("// 1: a word between");
        refuse("judge.count(0); judge.count(1); // 0");
    }

    private static void become(String line, String due) {
        String got = ReadmeCalls.statement(line);
        CHECK.holds(line + " became " + got + ", due " + due, got.equals(due));
    }

    private static void refuse(String line) {
        CHECK.raises(line, IllegalArgumentException.class, () -> ReadmeCalls.statement(line).length());
    }

    private static void blocks() {
        String text = "words\n```java\nfirst\n\n  second\n```\n```sh\nother\n```\nmore\n```java\nthird\n```\n";
        CHECK.holds("blocks of Java alone", ReadmeCalls.shown(text).equals(List.of("first", "second", "third")));
    }
}
