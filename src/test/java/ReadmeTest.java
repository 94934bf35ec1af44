import java.io.IOException;
import java.lang.reflect.Method;
import java.lang.reflect.Modifier;
import java.nio.file.Files;
import java.nio.file.Path;
import java.util.ArrayList;
import java.util.List;

/** README.md, read from the project's root: it names every call of the face, and its example answers as it says. */
public final class ReadmeTest {
    private static final Checks CHECKS = new Checks();

    /** The statements of the README's example, in their order; {@link #exampleAnswersAsItSays} makes these calls. */
    private static final List<String> EXAMPLE = List.of(
        "RowFilters rows = new RowFilters();",
        "rows.open(2, 6, 3);",
        "rows.fill(0, 7 << 24, 0);",
        "rows.set(1, 4, 200);",
        "rows.get(1, 4);",
        "rows.filter(1, 4);",
        "rows.plain(1, 4);",
        "int chosen = rows.best();",
        "int last = chosen % 5;",
        "int first = chosen / 5 % 5;",
        "rows.undo(first + 5 * last);",
        "rows.hash();",
        "rows.pass(6, 100, 50, false);",
        "rows.pass(6, 100, 50, true);",
        "rows.passOf(3, 2);");

    public static void main(String[] args) throws IOException {
        List<String> lines = Files.readAllLines(Path.of("README.md"));
        String example = String.join("\n", statements(lines));
        everyCallIsShown(String.join("\n", lines), example);
        saysHowToRunTheTests(lines);
        if (!example.equals(String.join("\n", EXAMPLE))) {
            CHECKS.tell("the example of README.md is\n" + example + "\nand not the one that is tested");
        }
        exampleAnswersAsItSays();
        CHECKS.end();
    }

    private static List<String> statements(List<String> lines) {
        List<String> found = new ArrayList<>();
        int from = lines.indexOf("```java") + 1;
        for (int i = from; i < lines.size() && !lines.get(i).equals("```"); i++) {
            String statement = lines.get(i).replaceFirst("//.*", "").strip();
            if (!statement.isEmpty()) {
                found.add(statement);
            }
        }
        return found;
    }

    private static void everyCallIsShown(String readme, String example) {
        for (Method method : RowFilters.class.getDeclaredMethods()) {
            String name = method.getName();
            if (Modifier.isPublic(method.getModifiers())) {
                if (!example.contains("rows." + name + "(")) {
                    CHECKS.tell("the example of README.md does not call " + name);
                }
                if (!readme.contains("| `" + method.getReturnType().getName() + " " + name + "(")) {
                    CHECKS.tell("README.md does not list " + name);
                }
            }
        }
    }

    private static void saysHowToRunTheTests(List<String> lines) throws IOException {
        if (!lines.contains(".ci/run")) {
            CHECKS.tell("README.md does not say that .ci/run runs the tests");
        }
        try (var files = Files.newDirectoryStream(Path.of("src/test/java"), "*Test.java")) {
            for (Path file : files) {
                String name = file.getFileName().toString().replace(".java", "");
                if (lines.stream().noneMatch(line -> line.startsWith("| `" + name + "` |"))) {
                    CHECKS.tell("README.md does not list the test " + name);
                }
            }
        }
    }

    private static void exampleAnswersAsItSays() {
        RowFilters rows = new RowFilters();
        rows.open(2, 6, 3);
        rows.fill(0, 7 << 24, 0);
        CHECKS.rowDue("after fill", rows, 0, 0, 7, 14, 21, 28, 35);
        CHECKS.rowDue("after fill", rows, 1, 42, 49, 56, 63, 70, 77);
        CHECKS.due("set(1, 4, 200)", rows.set(1, 4, 200), 70);
        CHECKS.due("get(1, 4)", rows.get(1, 4), 200);
        rows.filter(1, 4);
        CHECKS.rowDue("after filter", rows, 1, 42, 42, 42, 21, 151, 21);
        rows.plain(1, 4);
        CHECKS.rowDue("after plain", rows, 1, 42, 49, 56, 63, 200, 77);
        int before = rows.hash();
        int chosen = rows.best();
        CHECKS.due("best()", chosen, 34);
        int last = chosen % 5;
        int first = chosen / 5 % 5;
        CHECKS.due("the filter of row 1", last, 4);
        CHECKS.due("the filter of row 0", first, 1);
        rows.undo(first + 5 * last);
        CHECKS.due("hash() after undo", rows.hash(), before);
        CHECKS.due("pass(6, 100, 50, false)", rows.pass(6, 100, 50, false), 100);
        CHECKS.due("pass(6, 100, 50, true)", rows.pass(6, 100, 50, true), 25);
        CHECKS.due("passOf(3, 2)", rows.passOf(3, 2), 5);
    }
}
