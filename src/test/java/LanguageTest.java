import java.io.IOException;
import java.nio.charset.StandardCharsets;
import java.nio.file.Files;
import java.nio.file.Path;
import java.util.regex.Matcher;
import java.util.regex.Pattern;

/** Those rules of ../shared/LANGUAGE.md that can be seen in the text of the source. */
public final class LanguageTest {
    private static final String[] FORBIDDEN = {"\\bthrow\\b", "\\bthrows\\b", "\\btry\\b", "\\bcatch\\b",
        "\\bsynchronized\\b", "\\bassert\\b", "\\bimport\\b", "\\bpackage\\b", "->", "::", "\\bvar\\b",
        "Exact\\b", "\\bhashCode\\b", "\\btoString\\b", "\\bNaN\\b", "\\bSystem\\.(?!arraycopy)",
        "\\bstatic\\s*\\{", "\\bObject\\b", "\\bprotected\\b", "\\bvolatile\\b", "\\bnative\\b"};

    private static final Due due = new Due("LanguageTest");

    public static void main(String[] args) throws IOException {
        String source = Files.readString(Path.of("src/main/java/ChangerFair.java"), StandardCharsets.UTF_8);
        for (int i = 0; i < source.length(); i++) {
            if (source.charAt(i) > 126) {
                due.holds("a sign above 126 at " + i, false);
            }
        }
        String code = withoutCommentsAndTexts(source);
        for (String pattern : FORBIDDEN) {
            Matcher found = Pattern.compile(pattern).matcher(code);
            due.holds(pattern + " stands in the source", !found.find());
        }
        fields(code);
        methods(code);
        due.end();
    }

    private static String withoutCommentsAndTexts(String source) {
        return source.replaceAll("(?s)/\\*.*?\\*/", "").replaceAll("//[^\n]*", "")
                .replaceAll("\"[^\"\n]*\"", "\"\"").replaceAll("'[^'\n]*'", "' '");
    }

    /** Static fields are final, and numbers, texts or rows of numbers. */
    private static void fields(String code) {
        Matcher fields = Pattern.compile("(?m)^\\s+(?:private )?static ([^;={(]*)[;=]").matcher(code);
        while (fields.find()) {
            due.holds("static field: " + fields.group(1), fields.group(1)
                    .matches("final (int|long|boolean|char|String|int\\[\\]|long\\[\\]|char\\[\\]|byte\\[\\]) \\w+\\s*"));
        }
    }

    private static void methods(String code) {
        Matcher starts = Pattern.compile(
                "(?m)^( +)(?:public |private )?(?:static )?(?:[\\w\\[\\]]+ )?(\\w+)\\(([^)]*)\\) \\{$").matcher(code);
        int methods = 0;
        while (starts.find()) {
            if (starts.group(2).matches("if|for|while|switch")) {
                continue;
            }
            methods++;
            int end = code.indexOf("\n" + starts.group(1) + "}", starts.start());
            String body = code.substring(starts.start(), end);
            due.holds(starts.group(2) + " is too long", body.lines().count() <= 60);
            due.holds(starts.group(2) + " has too many parameters", starts.group(3).split(",").length <= 7);
        }
        due.holds("methods found: " + methods, methods > 90);
    }
}
