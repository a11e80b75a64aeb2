import java.io.IOException;
import java.lang.reflect.Constructor;
import java.lang.reflect.Field;
import java.lang.reflect.Member;
import java.lang.reflect.Method;
import java.lang.reflect.Modifier;
import java.nio.charset.StandardCharsets;
import java.nio.file.Files;
import java.nio.file.Path;
import java.util.Arrays;
import java.util.Set;
import java.util.TreeSet;
import java.util.regex.Matcher;
import java.util.regex.Pattern;
import java.util.stream.Collectors;

/** The public face: just the constants, the constructor and the methods of the document. */
public final class FaceTest {
    private static final Check CHECK = new Check("FaceTest");
    private static final String[] METHODS = {
        "int point(long,long,long)",
        "int size(int) NegativeArraySizeException",
        "int of(int,int) ArrayIndexOutOfBoundsException",
        "int at(int,int) ArrayIndexOutOfBoundsException NullPointerException",
        "int side(int,int,int)",
        "int circle(int,int,int,int)",
        "int filter(boolean)",
        "int decided(int)",
        "int between(int,int,int)",
        "int inside(int,int,int,int)",
        "int cross(int,int,int,int)",
        "int separated(int,int,int,int)",
        "int convex(int)",
        "int polygon(int,int)",
        "int winding(int,int)",
        "int nearest(int,int)",
        "int around(int,int,int)",
        "int order(int,int)",
        "long area(int,long) ArithmeticException",
        "int line(int,int)",
        "int lines(int,int)",
        "int count(int)",
    };

    public static void main(String[] args) throws IOException {
        CHECK.holds("public and final", OrderJudge.class.getModifiers() == (Modifier.PUBLIC | Modifier.FINAL));
        constants();
        constructor();
        methods();
        hiddenNames();
        String source = Files.readString(Path.of("src/main/java/OrderJudge.java"), StandardCharsets.UTF_8);
        String document = Document.text();
        wordByWord(source, document);
        headings(source, document);
        CHECK.end();
    }

    private static void constants() {
        CHECK.is("NONE", OrderJudge.NONE, -1);
        CHECK.is("BAD", OrderJudge.BAD, -2);
        CHECK.is("FULL", OrderJudge.FULL, -3);
        CHECK.is("NOT", OrderJudge.NOT, -4);
        Set<String> shown = new TreeSet<>();
        for (Field field : OrderJudge.class.getDeclaredFields()) {
            if (isShown(field)) {
                shown.add(Modifier.toString(field.getModifiers()) + " " + field.getType() + " " + field.getName());
            }
        }
        same("constants", shown, new TreeSet<>(Set.of("public static final int NONE", "public static final int BAD",
            "public static final int FULL", "public static final int NOT")));
    }

    private static void constructor() {
        Constructor<?>[] all = OrderJudge.class.getDeclaredConstructors();
        CHECK.is("one constructor", all.length, 1);
        CHECK.holds("public, without parameters", all[0].getModifiers() == Modifier.PUBLIC && all[0].getParameterCount() == 0);
    }

    private static void methods() {
        Set<String> shown = new TreeSet<>();
        for (Method method : OrderJudge.class.getDeclaredMethods()) {
            if (isShown(method)) {
                CHECK.holds(method.getName() + " is public and no more", method.getModifiers() == Modifier.PUBLIC);
                shown.add(written(method));
            }
        }
        same("methods", shown, new TreeSet<>(Arrays.asList(METHODS)));
    }

    // LANGUAGE.md, rule 1: no private method bears the name of a public one.
    private static void hiddenNames() {
        Set<String> face = Arrays.stream(METHODS).map(m -> m.replaceAll("^\\w+ (\\w+).*", "$1")).collect(Collectors.toSet());
        for (Method method : OrderJudge.class.getDeclaredMethods()) {
            CHECK.holds("private " + method.getName(), isShown(method) || !face.contains(method.getName()));
        }
        for (Class<?> inner : OrderJudge.class.getDeclaredClasses()) {
            CHECK.holds(inner.getName() + " is static", Modifier.isStatic(inner.getModifiers()));
            for (Method method : inner.getDeclaredMethods()) {
                CHECK.holds(inner.getName() + "." + method.getName(), !face.contains(method.getName()));
            }
        }
    }

    // Names of parameters too, which reflection does not see; and in the document's order.
    private static void wordByWord(String source, String document) {
        Matcher face = Pattern.compile("(?s)```java\\n(.*?)```").matcher(document);
        CHECK.holds("the document has a face", face.find() || !Document.atHand());
        int from = 0;
        for (String line : document.isEmpty() ? new String[0] : face.group(1).split("\n")) {
            String member = line.replaceAll("( \\{|;|\\})$", "").strip();
            int found = source.indexOf(member, from);
            CHECK.holds("the class has, in this order: " + member, found >= 0);
            CHECK.holds("and nothing behind it: " + member, member.isEmpty() || found < 0 || endsAt(source, found + member.length()));
            from = Math.max(from, found);
        }
    }

    private static boolean endsAt(String source, int end) {
        return source.startsWith(";\n", end) || source.startsWith(" {\n", end);
    }

    // "Ahead of the calls .. the interface says": no other public member stands between the words and the first of them.
    private static void headings(String source, String document) {
        Matcher said = Pattern.compile("Ahead of the calls `(\\w+)`.* the interface says: (---- .*)\\.\n").matcher(document);
        int found = 0;
        while (said.find()) {
            found++;
            String due = "(?s).*\n    // " + Pattern.quote(said.group(2)) + "\n\n    public \\w+ " + said.group(1) + "\\(.*";
            CHECK.holds("ahead of " + said.group(1) + ": " + said.group(2), source.matches(due));
        }
        CHECK.is("headings", found, Document.atHand() ? 5 : 0);
    }

    private static boolean isShown(Member member) {
        return !Modifier.isPrivate(member.getModifiers());
    }

    private static String written(Method method) {
        String parameters = Arrays.stream(method.getParameterTypes()).map(Class::getName).collect(Collectors.joining(","));
        String raised = Arrays.stream(method.getExceptionTypes()).map(e -> " " + e.getSimpleName()).collect(Collectors.joining());
        return method.getReturnType().getName() + " " + method.getName() + "(" + parameters + ")" + raised;
    }

    private static void same(String what, Set<String> got, Set<String> due) {
        CHECK.holds(what + ": " + got + ", due " + due, got.equals(due));
    }
}
