import java.io.IOException;
import java.lang.reflect.Method;
import java.lang.reflect.Modifier;
import java.nio.charset.StandardCharsets;
import java.nio.file.Files;
import java.nio.file.Path;
import java.util.ArrayList;
import java.util.Comparator;
import java.util.List;
import java.util.Map;
import java.util.TreeMap;
import java.util.TreeSet;
import java.util.concurrent.TimeUnit;
import java.util.regex.Matcher;
import java.util.regex.Pattern;
import java.util.stream.Stream;

/** README.md: its commands work as they stand there, and its tables tell what there is. */
public final class ReadmeTest {
    // Runs this test itself, so that it is only looked at.
    private static final String ALL_TESTS = ".ci/run";

    private static final Due due = new Due("ReadmeTest");

    public static void main(String[] args) throws IOException, InterruptedException {
        String page = Files.readString(Path.of("README.md"), StandardCharsets.UTF_8);
        commands(page);
        calls(page);
        findings(page);
        tests(page);
        due.end();
    }

    private static void commands(String page) throws IOException, InterruptedException {
        Path copy = Files.createTempDirectory("readme");
        try {
            copyTree(Path.of("src"), copy.resolve("src"));
            int run = 0;
            Matcher blocks = Pattern.compile("(?s)```sh\n(.*?)```(?:\n\nIt prints\n\n```text\n(.*?)```)?").matcher(page);
            while (blocks.find()) {
                String command = blocks.group(1);
                if (command.trim().equals(ALL_TESTS)) {
                    due.holds(ALL_TESTS + " can't be run", Files.isExecutable(Path.of(ALL_TESTS)));
                } else {
                    command(copy, command, blocks.group(2));
                }
                run++;
            }
            due.is("blocks of commands", 3, run);
            due.is("blocks", run + 1, page.split("(?m)^```\\w+$", -1).length - 1);
        } finally {
            removeTree(copy);
        }
    }

    private static void command(Path directory, String command, String printed) throws IOException, InterruptedException {
        Path output = Files.createTempFile("readme", ".txt");
        Process process = new ProcessBuilder("sh", "-e", "-c", command).directory(directory.toFile())
                .redirectErrorStream(true).redirectOutput(output.toFile()).start();
        boolean ended = process.waitFor(5, TimeUnit.MINUTES);
        String got = Files.readString(output, StandardCharsets.UTF_8);
        Files.delete(output);
        due.holds("doesn't end: " + command, ended);
        if (ended) {
            due.is(command + got, 0, process.exitValue());
        }
        due.holds(command + "printed\n" + got, printed == null || printed.equals(got));
    }

    private static void copyTree(Path from, Path to) throws IOException {
        try (Stream<Path> paths = Files.walk(from)) {
            for (Path path : (Iterable<Path>) paths::iterator) {
                Files.copy(path, to.resolve(from.relativize(path).toString()));
            }
        }
    }

    private static void removeTree(Path top) throws IOException {
        try (Stream<Path> paths = Files.walk(top)) {
            for (Path path : (Iterable<Path>) paths.sorted(Comparator.reverseOrder())::iterator) {
                Files.delete(path);
            }
        }
    }

    /** Every call of the face has one row, with its parameters and findings. */
    private static void calls(String page) {
        Map<String, String> rows = new TreeMap<>();
        Matcher found = Pattern.compile("(?m)^\\| `(\\w+)\\(([^)]*)\\)` \\| [^|]+ \\| ([A-Z, ]*)\\|$").matcher(page);
        while (found.find()) {
            int parameters = found.group(2).isEmpty() ? 0 : found.group(2).split(", ").length;
            String was = rows.put(found.group(1), parameters + " " + found.group(3).replace(",", "").trim());
            due.holds(found.group(1) + " has two rows", was == null);
        }
        Map<String, String> want = new TreeMap<>();
        for (Method method : ChangerFair.class.getDeclaredMethods()) {
            if (Modifier.isPublic(method.getModifiers())) {
                want.put(method.getName(), method.getParameterCount() + " " + namedOf(method.getName()));
            }
        }
        due.is("calls", 36, want.size());
        for (String name : want.keySet()) {
            due.holds(name + " has the row " + rows.get(name) + ", due is " + want.get(name), want.get(name).equals(rows.get(name)));
        }
        due.holds("rows: " + rows.keySet(), rows.keySet().equals(want.keySet()));
    }

    private static String namedOf(String act) {
        for (String row : UnchangedTest.NAMED) {
            if (row.startsWith(act + " ")) {
                return row.substring(act.length() + 1);
            }
        }
        return act.equals("read") ? "TEXT" : "";
    }

    private static void findings(String page) {
        List<String> rows = new ArrayList<>();
        Matcher found = Pattern.compile("(?m)^\\| (\\d) \\| ([A-Z]+) \\| (-\\d+) \\|").matcher(page);
        while (found.find()) {
            rows.add(found.group(1) + " " + found.group(2) + " " + found.group(3));
        }
        List<String> want = new ArrayList<>();
        for (int k = 1; k <= 7; k++) {
            want.add(k + " " + UnchangedTest.FINDINGS[k] + " " + (Due.LOW - k));
        }
        due.holds("findings: " + rows, rows.equals(want));
    }

    private static void tests(String page) throws IOException {
        TreeSet<String> rows = new TreeSet<>();
        Matcher found = Pattern.compile("(?m)^\\| `(\\w+Test)` \\|").matcher(page);
        while (found.find()) {
            rows.add(found.group(1) + ".java");
        }
        TreeSet<String> files = new TreeSet<>();
        try (Stream<Path> paths = Files.list(Path.of("src/test/java"))) {
            paths.map(path -> path.getFileName().toString()).filter(name -> name.endsWith("Test.java")).forEach(files::add);
        }
        due.holds("tests: " + rows, rows.equals(files));
    }
}
