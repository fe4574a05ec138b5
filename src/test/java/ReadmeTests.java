import java.io.IOException;
import java.nio.file.DirectoryStream;
import java.nio.file.Files;
import java.nio.file.Path;

/** README.md: each line of its examples stands here again, and answers what is told behind it. */
public final class ReadmeTests {
    private static String readme;
    private static int linesTried;

    public static void main(String[] args) throws IOException {
        readme = Files.readString(Path.of("README.md"));
        calls();
        texts();
        Due.due("lines of the examples", linesTried, linesTold());
        tableOfTests();
        Due.finish();
    }

    private static void calls() {
        PaddleRows rows = new PaddleRows();
        told("rows.gauge(5);", rows.gauge(5));
        told("rows.paddle(0, PaddleRows.BOX, 200, 8, 0);", rows.paddle(0, PaddleRows.BOX, 200, 8, 0));
        told("rows.reaches(5, 10);", rows.reaches(5, 10));
        told("rows.pass(20);", rows.pass(20));
        told("rows.cell(5, 0) - 10000;", rows.cell(5, 0) - 10000);
        told("rows.noted(0, 0) - 10000;", rows.noted(0, 0) - 10000);
        told("rows.bestPeriod(0, 10, 40, 0);", rows.bestPeriod(0, 10, 40, 0));
        told("rows.set(PaddleRows.HARD, 0);", rows.set(PaddleRows.HARD, 0));
        told("rows.save(1);", rows.save(1));
        told("rows.undo();", rows.undo());
        told("rows.restore(1);", rows.restore(1));
    }

    private static void texts() {
        PaddleRows rows = new PaddleRows();
        told("rows.put(('l' << 24 | '7' << 16 | '=' << 8) + '5');", rows.put(('l' << 24 | '7' << 16 | '=' << 8) + '5'));
        told("rows.fault();", rows.fault());
        told("rows.put((';' << 16 | 't' << 8) + '3');", rows.put((';' << 16 | 't' << 8) + '3'));
        told("rows.carryOut();", rows.carryOut());
        told("rows.count(0);", rows.count(0));
    }

    private static void told(String line, int answer) {
        linesTried++;
        String due = "no such line";
        for (String shown : readme.split("\n")) {
            if (shown.startsWith(line) && shown.contains("// ")) {
                due = shown.substring(shown.indexOf("// ") + 3).split(":")[0];
            }
        }
        Due.due("README: " + line, String.valueOf(answer), due);
    }

    private static int linesTold() {
        int lines = 0;
        for (String shown : readme.split("\n")) {
            lines += shown.startsWith("rows.") ? 1 : 0;
        }
        return lines;
    }

    private static void tableOfTests() throws IOException {
        int tests = 0;
        try (DirectoryStream<Path> files = Files.newDirectoryStream(Path.of("src/test/java"), "*Tests.java")) {
            for (Path file : files) {
                String name = file.getFileName().toString().replace(".java", "");
                Due.due("README lists " + name, readme.contains("\n| `" + name + "` |") ? 1 : 0, 1);
                tests++;
            }
        }
        Due.due("tests that README lists", readme.split("\n\\| `").length - 1, tests);
    }
}
