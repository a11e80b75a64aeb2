import java.io.IOException;
import java.nio.charset.StandardCharsets;
import java.nio.file.Files;
import java.nio.file.Path;
import java.util.regex.Matcher;
import java.util.regex.Pattern;

/** Those rules of LANGUAGE.md that a look at the text can check; run from the project's folder. */
public final class LanguageTest {
    private static final Check CHECK = new Check("LanguageTest");
    private static final int LONGEST_METHOD = 60;
    private static final int MOST_PARAMETERS = 7;
    private static final int MOST_CLASSES = 12;

    public static void main(String[] args) throws IOException {
        String text = Files.readString(Path.of("src/main/java/OrderJudge.java"), StandardCharsets.UTF_8);
        String code = text.replaceAll("(?s)/\\*.*?\\*/", "").replaceAll("//[^\\n]*", "");
        forbidden(code);
        staticFields(code);
        exceptions(code);
        methods(code);
        CHECK.holds("characters 0 to 127 alone", text.chars().allMatch(c -> c < 128));
        CHECK.holds("few classes", count(code, "\\b(class|record|enum|interface) \\w+") <= MOST_CLASSES);
        CHECK.end();
    }

    private static void forbidden(String code) {
        String[] words = {
            "\\bpackage\\b", "\\bimport\\b", "\\bjava\\.", "->", "::", "\\btry\\b", "\\bcatch\\b", "\\bfinally\\b", "\\bsynchronized\\b",
            "\\bassert\\b", "\\bprotected\\b", "\\bstatic\\s*\\{", "\\bvar\\b", "\\w+Exact\\b", "\\bwhile\\b", "\\bnew \\w+\\s*\\[.*\\]\\s*\\[",
            "\\bhashCode\\b", "\\btoString\\b", "\\bequals\\b", "\\bSystem\\b", "\\bThread\\b", "\\bRandom\\b", "\\bdouble\\b", "\\bFloat\\b",
            "\\bstrictfp\\b", "\\bnative\\b",
        };
        for (String word : words) {
            CHECK.is("uses of " + word, count(code, word), 0);
        }
        CHECK.is("Math over int alone", count(code, "Math\\.(?!max\\(mostPassings, through\\))"), 0);
    }

    private static void staticFields(String code) {
        Matcher field = Pattern.compile("static ((?:final )?)(\\w+)(\\[\\])? [A-Za-z_]+ *[=;]").matcher(code);
        int found = 0;
        while (field.find()) {
            found++;
            CHECK.holds("static " + field.group() + " is a final int", field.group(1).equals("final ") && field.group(2).equals("int"));
        }
        CHECK.holds("static fields were found", found > 0);
    }

    private static void exceptions(String code) {
        Matcher raised = Pattern.compile("throw\\s+([^;]*);").matcher(code);
        while (raised.find()) {
            CHECK.holds(raised.group(), raised.group(1).matches(
                "new (NegativeArraySize|ArrayIndexOutOfBounds|NullPointer|Arithmetic)Exception\\(\"[^\"]*\"\\)"));
        }
    }

    private static void methods(String code) {
        Matcher head = Pattern.compile("(?m)^( +)(?:\\w+ )*\\w+\\(([^)]*)\\)[^;{]*\\{\\n").matcher(code);
        int found = 0;
        while (head.find()) {
            int end = code.indexOf("\n" + head.group(1) + "}", head.end());
            String body = code.substring(head.end(), Math.max(head.end(), end));
            found++;
            CHECK.holds("length of " + head.group().trim(), count(body, "\n") <= LONGEST_METHOD);
            CHECK.holds("parameters of " + head.group().trim(), head.group(2).split(",").length <= MOST_PARAMETERS);
        }
        CHECK.holds("methods were found", found > 40);
    }

    private static int count(String code, String pattern) {
        return (int) Pattern.compile(pattern).matcher(code).results().count();
    }
}
