import java.io.IOException;
import java.lang.reflect.Field;
import java.lang.reflect.Method;
import java.lang.reflect.Modifier;
import java.nio.file.Files;
import java.nio.file.Path;
import java.util.Set;
import java.util.TreeSet;
import java.util.regex.Matcher;
import java.util.regex.Pattern;

/** The document's face, and what can be seen of the language's rules without a parser. Runs in the project's folder. */
public final class FaceTests {
    private static final String[] METHODS = {"int set(int,int)", "int paddle(int,int,int,int,int)", "int lift(int)",
        "int again(int)", "int gauge(int)", "int level(int,int)", "int pass(int)", "int cell(int,int)",
        "int ofPaddle(int,int)", "int ofGauge(int,int)", "int noted(int,int)", "long places(int)", "int count(int)",
        "int reaches(int,int)", "int bestPeriod(int,int,int,int)", "int calmIn()", "int put(long)", "int wipe()",
        "int fault()", "int carryOut()", "int undo()", "int save(int)", "int restore(int)"};
    private static final Object[][] CONSTANTS = {{"NO_SUCH", -1}, {"BAD_VALUE", -2}, {"BAD_TEXT", -3}, {"TOO_MANY", -4},
        {"NOT_POSSIBLE", -5}, {"NONE", -6}, {"BEACH", 0}, {"LOSS", 1}, {"HARD", 2}, {"FLAT", 0}, {"SAW", 1}, {"BOX", 2},
        {"TENT", 3}};
    private static final String[] FORBIDDEN = {"throw", "throws", "try", "catch", "finally", "synchronized", "assert",
        "import", "->", "::", "Object", "Class", "System.out", "System.err", "System.nanoTime", "currentTimeMillis",
        "Thread", "Random", "hashCode", "toString", "equals", "Exact", "volatile", "transient", "native", "strictfp",
        "@", "var"};

    public static void main(String[] args) throws IOException {
        face();
        methods();
        constants();
        classesInside();
        staticFields();
        source();
        Due.finish();
    }

    private static void face() {
        int flags = PaddleRows.class.getModifiers();
        Due.due("public and final", Modifier.isPublic(flags) && Modifier.isFinal(flags) ? 1 : 0, 1);
        Due.due("above it", PaddleRows.class.getSuperclass().getName(), "java.lang.Object");
        Due.due("interfaces", PaddleRows.class.getInterfaces().length, 0);
        Due.due("constructors", PaddleRows.class.getDeclaredConstructors().length, 1);
        Due.due("constructor", PaddleRows.class.getDeclaredConstructors()[0].toString(), "public PaddleRows()");
    }

    private static void methods() {
        Set<String> due = new TreeSet<>(java.util.List.of(METHODS));
        Set<String> shown = new TreeSet<>();
        Set<String> names = new TreeSet<>();
        for (Method method : PaddleRows.class.getDeclaredMethods()) {
            if (!Modifier.isPrivate(method.getModifiers())) {
                Due.due("modifiers of " + method, Modifier.toString(method.getModifiers()), "public");
                String parameters = method.toString().replaceAll(".*(\\(.*\\)).*", "$1");
                shown.add(method.getReturnType() + " " + method.getName() + parameters);
                names.add(method.getName());
            }
        }
        Due.due("methods", shown.toString(), due.toString());
        for (Class<?> type : allClasses()) {
            for (Method method : type.getDeclaredMethods()) {
                boolean mixed = names.contains(method.getName()) && !Modifier.isPublic(method.getModifiers());
                Due.due("a public method's name for " + method, mixed ? 1 : 0, 0);
                Due.due("parameters of " + method, method.getParameterCount() <= 7 ? 1 : 0, 1);
            }
        }
    }

    private static void constants() {
        Set<String> due = new TreeSet<>();
        for (Object[] constant : CONSTANTS) {
            due.add(constant[0] + "=" + constant[1]);
        }
        Set<String> shown = new TreeSet<>();
        for (Field field : PaddleRows.class.getDeclaredFields()) {
            if (!Modifier.isPrivate(field.getModifiers())) {
                Due.due("modifiers of " + field, Modifier.toString(field.getModifiers()), "public static final");
                Due.due("type of " + field, field.getType().getName(), "int");
                shown.add(field.getName() + "=" + valueOf(field));
            }
        }
        Due.due("constants", shown.toString(), due.toString());
    }

    private static String valueOf(Field field) {
        try {
            return String.valueOf(field.getInt(null));
        } catch (IllegalAccessException e) {
            return "unseen";
        }
    }

    private static Set<Class<?>> allClasses() {
        Set<Class<?>> all = new java.util.LinkedHashSet<>();
        all.add(PaddleRows.class);
        all.addAll(java.util.List.of(PaddleRows.class.getDeclaredClasses()));
        return all;
    }

    private static void classesInside() {
        Due.due("some twelve classes at most", allClasses().size() <= 12 ? 1 : 0, 1);
        for (Class<?> type : PaddleRows.class.getDeclaredClasses()) {
            int flags = type.getModifiers();
            Due.due("static " + type, Modifier.isStatic(flags) ? 1 : 0, 1);
            Due.due("hidden " + type, Modifier.isPublic(flags) || Modifier.isProtected(flags) ? 1 : 0, 0);
            Due.due("classes inside " + type, type.getDeclaredClasses().length, 0);
        }
    }

    private static void staticFields() {
        for (Class<?> type : allClasses()) {
            int own = 0;
            for (Field field : type.getDeclaredFields()) {
                if (Modifier.isStatic(field.getModifiers())) {
                    Due.due("final " + field, Modifier.isFinal(field.getModifiers()) ? 1 : 0, 1);
                } else {
                    own++;
                }
            }
            Due.due("some twenty fields at most in " + type, own <= 20 ? 1 : 0, 1);
        }
    }

    private static void source() throws IOException {
        String source = Files.readString(Path.of("src/main/java/PaddleRows.java"));
        String code = source.replaceAll("(?s)/\\*.*?\\*/", "").replaceAll("//[^\n]*", "");
        for (String word : FORBIDDEN) {
            String edge = Character.isLetter(word.charAt(0)) && !word.equals("Exact") ? "\\b" : "";
            Matcher found = Pattern.compile(edge + Pattern.quote(word) + edge).matcher(code);
            Due.due("'" + word + "' in the source", found.find() ? 1 : 0, 0);
        }
        Due.due("package line", code.contains("package ") ? 1 : 0, 0);
        int longest = 0;
        int start = 0;
        String[] lines = source.split("\n");
        for (int line = 0; line < lines.length; line++) {
            if (lines[line].matches(" {4,8}[^ ].*\\{")) {
                start = line;
            }
            if (lines[line].matches(" {4,8}\\}")) {
                longest = Math.max(longest, methodLength(lines, start, line));
            }
        }
        Due.due("some sixty lines at most in a method", longest <= 60 ? 1 : 0, 1);
        for (int i = 0; i < source.length(); i++) {
            if (source.charAt(i) > 126) {
                Due.due("sign at " + i, source.charAt(i), 0);
            }
        }
    }

    private static int methodLength(String[] lines, int start, int end) {
        return lines[start].contains(" class ") ? 0 : end - start + 1;
    }
}
