import java.io.IOException;
import java.nio.file.Files;
import java.nio.file.Path;
import java.util.ArrayList;
import java.util.List;
import java.util.Map;
import java.util.Set;
import java.util.TreeMap;
import java.util.TreeSet;
import java.util.regex.Matcher;
import java.util.regex.Pattern;

/**
 * LANGUAGE.md's rules 8 and 11: no method of the class calls itself, directly or through others, and the calls go at
 * most eight deep. The methods are told apart by their class and name; a call is taken as one of every method that has
 * its name, but for copyFrom, which a tank calls on its paddles and gauges.
 */
public final class DepthTests {
    private static final int DEEPEST = 8;
    private static final Pattern HEAD =
        Pattern.compile("( {4}| {8})(?:public |private )?(?:static )?\\w+ (\\w+)\\([^;]*\\) \\{");
    private static final Pattern CLASS = Pattern.compile(" {4}private static final class (\\w+) \\{");
    private static final Pattern CALL = Pattern.compile("(\\w+\\.)?\\b(\\w+)\\(");

    private static final Map<String, Set<String>> CALLS = new TreeMap<>();

    public static void main(String[] args) throws IOException {
        read(Files.readString(Path.of("src/main/java/PaddleRows.java")));
        Due.due("methods are found", CALLS.size() > 60 ? 1 : 0, 1);
        int deepest = 0;
        for (String method : CALLS.keySet()) {
            deepest = Math.max(deepest, depth(method, new ArrayList<>()));
        }
        Due.due("calls are found", deepest > 3 ? 1 : 0, 1);
        Due.due("calls at most eight deep, not " + deepest, deepest <= DEEPEST ? 1 : 0, 1);
        Due.finish();
    }

    private static void read(String source) {
        String code = source.replaceAll("(?s)/\\*.*?\\*/", "").replaceAll("//[^\n]*", "");
        String inside = "PaddleRows";
        Set<String> calls = new TreeSet<>();
        for (String line : code.split("\n")) {
            Matcher type = CLASS.matcher(line);
            Matcher head = HEAD.matcher(line);
            if (type.matches()) {
                inside = type.group(1);
            } else if (head.matches()) {
                calls = new TreeSet<>();
                CALLS.put((head.group(1).length() == 4 ? "PaddleRows" : inside) + "." + head.group(2), calls);
            } else {
                addCalls(line, calls);
            }
        }
    }

    private static void addCalls(String line, Set<String> calls) {
        Matcher call = CALL.matcher(line);
        while (call.find()) {
            boolean ofLibrary = call.group(1) != null && call.group(1).matches("(Math|Long|System)\\.");
            calls.add(ofLibrary ? "the library" : call.group(2));
        }
    }

    /** The most calls that stand open at once from a method on, itself and the library's among them. */
    private static int depth(String method, List<String> open) {
        Due.due("within " + open + " a call of " + method, open.contains(method) ? 1 : 0, 0);
        if (open.contains(method)) {
            return 0;
        }
        open.add(method);
        int below = CALLS.get(method).contains("the library") ? 1 : 0;
        for (String called : CALLS.keySet()) {
            if (isCalled(called, method)) {
                below = Math.max(below, depth(called, open));
            }
        }
        open.remove(method);
        return below + 1;
    }

    private static boolean isCalled(String called, String method) {
        String name = called.substring(called.indexOf('.') + 1);
        boolean copies = method.endsWith(".copyFrom") && name.equals("copyFrom");
        if (copies) {
            return method.equals("Tank.copyFrom") && !called.equals(method);
        }
        return CALLS.get(method).contains(name);
    }
}
