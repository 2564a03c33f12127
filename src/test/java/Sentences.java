import java.io.IOException;
import java.nio.charset.StandardCharsets;
import java.nio.file.Files;
import java.nio.file.Path;
import java.util.Arrays;
import java.util.LinkedHashMap;
import java.util.Map;
import java.util.regex.Matcher;
import java.util.regex.Pattern;

/**
 * Answers asked sentence by sentence: a test first quotes the words of ../shared/DOC.md that it holds
 * the class to. At the end every word of the document's promises and terms must have been quoted, and
 * answers must have been asked behind each quote, so that no sentence is without a test of its own.
 */
final class Sentences {
    private static final Path DOCUMENT = Path.of("../shared/DOC.md");
    private static final String USE = "use";
    private static final String FINDINGS = "findings";

    private final Due due = new Due("EdgesTest");
    private final Map<String, String> sections = new LinkedHashMap<>();
    private final Map<String, boolean[]> quoted = new LinkedHashMap<>();
    private String where = "";
    private int askedSince = 1;

    Sentences() throws IOException {
        if (!Files.exists(DOCUMENT)) {
            System.out.println("EdgesTest: without " + DOCUMENT + " the quotes are not looked up");
            return;
        }
        String text = Files.readString(DOCUMENT, StandardCharsets.UTF_8).replaceAll("```\\w*", " ");
        sections.put(USE, between(text, "(?=An object is used for)", "## The public face"));
        sections.put(FINDINGS, between(text, "## Terms\n", "\n1\\. "));
        for (int point = 1; point <= 7; point++) {
            sections.put("point " + point,
                    between(text, "\n" + point + "\\. ", "\n" + (point + 1) + "\\. |\nAhead of the calls"));
        }
        for (int number = 1; number <= 37; number++) {
            sections.put("promise " + number, between(text, "## Promise " + number + ": [^\n]*\n\\s*`[^`]*`: ", "\n## "));
        }
        for (Map.Entry<String, String> section : sections.entrySet()) {
            quoted.put(section.getKey(), new boolean[section.getValue().length()]);
        }
    }

    private static String between(String text, String before, String behind) {
        Matcher m = Pattern.compile("(?s)" + before + "(.*?)(?:" + behind + ")").matcher(text);
        return m.find() ? m.group(1).replaceAll("\\s+", " ").trim() : "";
    }

    /** The answers asked from here on belong to these words of a promise. */
    void promise(int number, String words) {
        quote("promise " + number, words);
    }

    /** The answers asked from here on belong to these words of a point of the Terms. */
    void point(int number, String words) {
        quote("point " + number, words);
    }

    /** The answers asked from here on belong to these words of the Terms, ahead of their points. */
    void findings(String words) {
        quote(FINDINGS, words);
    }

    /** The answers asked from here on belong to these words on how an object is used. */
    void use(String words) {
        quote(USE, words);
    }

    private void quote(String section, String words) {
        due.holds(where + ": nothing was asked", askedSince > 0);
        askedSince = 0;
        where = section + " '" + words + "'";
        if (sections.isEmpty()) {
            return;
        }
        int at = sections.get(section).indexOf(words);
        due.holds(where + " doesn't stand in the document", at >= 0);
        if (at >= 0) {
            Arrays.fill(quoted.get(section), at, at + words.length(), true);
        }
    }

    /** Asks an act by its name; a boolean argument is 0 or 1. */
    void ask(ChangerFair x, long want, String act, long... a) {
        is(act + Arrays.toString(a), want, Acts.call(x, act, a));
    }

    void is(String call, long want, long got) {
        askedSince++;
        due.is(where + ": " + call, want, got);
    }

    void end() {
        due.holds(where + ": nothing was asked", askedSince > 0);
        for (Map.Entry<String, String> section : sections.entrySet()) {
            due.holds(section.getKey() + " isn't found in the document", !section.getValue().isEmpty());
            String left = notQuoted(section.getKey());
            due.holds(section.getKey() + " has words without a test: " + left, !left.matches(".*[A-Za-z0-9].*"));
        }
        due.end();
    }

    private String notQuoted(String section) {
        StringBuilder left = new StringBuilder();
        for (int i = 0; i < quoted.get(section).length; i++) {
            left.append(quoted.get(section)[i] ? ' ' : sections.get(section).charAt(i));
        }
        return left.toString().replaceAll("\\s+", " ").trim();
    }
}
