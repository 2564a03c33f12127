import java.io.IOException;
import java.lang.reflect.Modifier;
import java.nio.charset.StandardCharsets;
import java.nio.file.Files;
import java.nio.file.Path;
import java.util.Arrays;
import java.util.List;
import java.util.regex.Matcher;
import java.util.regex.Pattern;

/** Those rules of ../shared/LANGUAGE.md that can be seen in the text of the source. */
public final class LanguageTest {
    private static final String[] FORBIDDEN = {"\\bthrow\\b", "\\bthrows\\b", "\\btry\\b", "\\bcatch\\b",
        "\\bsynchronized\\b", "\\bassert\\b", "\\bimport\\b", "\\bpackage\\b", "->", "::", "\\bvar\\b",
        "Exact\\b", "\\bhashCode\\b", "\\btoString\\b", "\\bNaN\\b", "\\bSystem\\.(?!arraycopy)",
        "\\bstatic\\s*\\{", "\\bObject\\b", "\\bprotected\\b", "\\bvolatile\\b", "\\bnative\\b"};

    private static final Due due = new Due("LanguageTest");

    public static void main(String[] args) throws IOException {
        String source = Files.readString(Path.of("src/main/java/ChangerFair.java"), StandardCharsets.UTF_8);
        for (int i = 0; i < source.length(); i++) {
            if (source.charAt(i) > 126) {
                due.holds("a sign above 126 at " + i, false);
            }
        }
        String code = withoutCommentsAndTexts(source);
        for (String pattern : FORBIDDEN) {
            Matcher found = Pattern.compile(pattern).matcher(code);
            due.holds(pattern + " stands in the source", !found.find());
        }
        fields(code);
        fieldCounts();
        methods(code);
        calls(code);
        library(code);
        due.end();
    }

    private static String withoutCommentsAndTexts(String source) {
        return source.replaceAll("(?s)/\\*.*?\\*/", "").replaceAll("//[^\n]*", "")
                .replaceAll("\"[^\"\n]*\"", "\"\"").replaceAll("'[^'\n]*'", "' '");
    }

    /** Static fields are final, and numbers, texts or rows of numbers. */
    private static void fields(String code) {
        Matcher fields = Pattern.compile("(?m)^\\s+(?:private )?static ([^;={(]*)[;=]").matcher(code);
        while (fields.find()) {
            due.holds("static field: " + fields.group(1), fields.group(1)
                    .matches("final (int|long|boolean|char|String|int\\[\\]|long\\[\\]|char\\[\\]|byte\\[\\]) \\w+\\s*"));
        }
    }

    private static void fieldCounts() {
        fieldCount(ChangerFair.class);
        for (Class<?> inside : ChangerFair.class.getDeclaredClasses()) {
            fieldCount(inside);
        }
    }

    private static void fieldCount(Class<?> type) {
        long own = Arrays.stream(type.getDeclaredFields()).filter(f -> !Modifier.isStatic(f.getModifiers())).count();
        due.holds(type.getName() + " has " + own + " fields", own <= 20);
    }

    private static void methods(String code) {
        Matcher starts = Pattern.compile(
                "(?m)^( +)(?:public |private )?(?:static )?(?:[\\w\\[\\]]+ )?(\\w+)\\(([^)]*)\\) \\{$").matcher(code);
        int methods = 0;
        while (starts.find()) {
            if (starts.group(2).matches("if|for|while|switch")) {
                continue;
            }
            methods++;
            int end = code.indexOf("\n" + starts.group(1) + "}", starts.start());
            String body = code.substring(starts.start(), end);
            due.holds(starts.group(2) + " is too long", body.lines().count() <= 60);
            due.holds(starts.group(2) + " has too many parameters", starts.group(3).split(",").length <= 7);
        }
        due.holds("methods found: " + methods, methods > 90);
    }

    /** Calls go at most eight deep, the face's and the library's own counted too, and none in a circle. */
    private static void calls(String code) {
        CallGraph graph = new CallGraph(code);
        due.holds("methods found: " + graph.methods(), graph.methods().size() > 90);
        for (String method : graph.methods()) {
            List<String> chain = graph.deepest(method);
            due.holds("calls go " + chain.size() + " deep: " + chain, chain.size() <= 8);
        }
        due.holds("methods come to call themselves: " + graph.circles(), graph.circles().isEmpty());
        // So deep it goes, by the eye: the graph would be blind if it told less.
        due.is("the chain of read()", 8, graph.deepest("ChangerFair.read").size());
    }

    /** Of the library only what the program needs, all of it in the rules' list. */
    private static void library(String code) {
        Matcher used = Pattern.compile("\\b([A-Z]\\w*)\\.(\\w+)\\(").matcher(code);
        while (used.find()) {
            String call = used.group(1) + "." + used.group(2);
            due.holds(call + " is called", call.matches("(Math\\.(abs|max|min)|(Purses|Rates)\\.\\w+)"));
        }
    }
}
