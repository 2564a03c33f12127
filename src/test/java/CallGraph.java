import java.util.ArrayList;
import java.util.LinkedHashMap;
import java.util.List;
import java.util.Map;
import java.util.TreeSet;
import java.util.regex.Matcher;
import java.util.regex.Pattern;

/**
 * Which methods of a source call which, read from its text (without comments): a class at its first
 * indent, classes inside at the next one. Where a call may mean methods of several classes, all of them
 * are taken, so that what is told is never less than what is so.
 */
final class CallGraph {
    private static final Pattern CLASS = Pattern.compile("(?m)^ {0,4}(?:\\w+ )*class (\\w+) \\{$");
    private static final Pattern METHOD = Pattern.compile(
            "(?m)^( {4}| {8})(?:public |private )?(?:static )?(?:[\\w\\[\\]]+ )?(\\w+)\\(([^)]*)\\) \\{$");
    private static final Pattern CALL = Pattern.compile("(new )?(?:\\b(\\w+)\\.)?\\b(\\w+)\\(");

    private final Map<String, String> bodies = new LinkedHashMap<>();
    private final TreeSet<String> circles = new TreeSet<>();

    CallGraph(String code) {
        Matcher methods = METHOD.matcher(code);
        while (methods.find()) {
            int end = code.indexOf("\n" + methods.group(1) + "}", methods.start());
            bodies.put(classAt(code, methods.start()) + "." + methods.group(2), code.substring(methods.end(), end));
        }
    }

    private static String classAt(String code, int place) {
        Matcher classes = CLASS.matcher(code);
        String name = "";
        while (classes.find() && classes.start() < place) {
            name = classes.group(1);
        }
        return name;
    }

    TreeSet<String> methods() {
        return new TreeSet<>(bodies.keySet());
    }

    /** Methods that come to call themselves; known when their depth has been asked for. */
    TreeSet<String> circles() {
        return circles;
    }

    /** The longest chain of calls that begins with a method, it and the library's own counted too. */
    List<String> deepest(String method) {
        return deepest(method, new ArrayList<>());
    }

    private List<String> deepest(String method, List<String> open) {
        List<String> best = new ArrayList<>();
        if (open.contains(method)) {
            circles.add(method);
        } else {
            open.add(method);
            for (String called : calledBy(method)) {
                List<String> chain = deepest(called, open);
                best = chain.size() > best.size() ? chain : best;
            }
            open.remove(method);
        }
        best.add(0, method);
        return best;
    }

    private TreeSet<String> calledBy(String method) {
        TreeSet<String> called = new TreeSet<>();
        Matcher calls = CALL.matcher(bodies.getOrDefault(method, ""));
        while (calls.find()) {
            String name = calls.group(3);
            if (calls.group(1) != null) {
                called.add(name + "." + name);
            } else if (calls.group(2) == null) {
                String own = method.substring(0, method.indexOf('.')) + "." + name;
                if (bodies.containsKey(own)) {
                    called.add(own);
                }
            } else {
                called.addAll(meant(calls.group(2), name));
            }
        }
        return called;
    }

    private TreeSet<String> meant(String whose, String name) {
        TreeSet<String> meant = new TreeSet<>();
        for (String method : bodies.keySet()) {
            if (method.endsWith("." + name) && !method.startsWith("ChangerFair.")) {
                meant.add(method);
            }
        }
        if (meant.isEmpty() || bodies.containsKey(whose + "." + name)) {
            meant.clear();
            meant.add(whose + "." + name);
        }
        return meant;
    }
}
