import java.io.IOException;
import java.lang.reflect.Method;
import java.lang.reflect.Modifier;
import java.nio.file.DirectoryStream;
import java.nio.file.Files;
import java.nio.file.Path;

/** README.md tells the class and its tests as they are. It is read from the folder that .ci/run goes to. */
public final class ReadmeTest extends Dues {
    private static final String[] EXAMPLE = {
        "DefiniteRows rows = new DefiniteRows();",
        "rows.put(0, 4, 3);            // 3 / (x + 4) everywhere",
        "rows.put(0, 7, -4);",
        "rows.cut(0);                  // 1 from 0 on",
        "rows.put(1, 4, 0);",
        "rows.put(1, 0, 1);",
        "if (rows.integral(-3, 5)) {   // it doesn't diverge: 5 / 1 and 6 times the logarithm of 2",
        "    long above = rows.fraction(0);",
        "    long below = rows.fraction(1);",
        "    int often = rows.logarithm(2);",
        "}",
    };

    public static void main(String[] args) throws IOException {
        String readme = Files.readString(Path.of("README.md"));
        exampleAnswersWhatItSays(readme);
        namesEachCall(readme);
        namesEachTest(readme);
        twoEdges();
        Check.end("ReadmeTest");
    }

    private static void exampleAnswersWhatItSays(String readme) {
        String example = "```java\n" + String.join("\n", EXAMPLE) + "\n```";
        Check.due("README.md has the example that is run here", readme.contains(example), true);
        DefiniteRows rows = new DefiniteRows();
        rows.put(0, 4, 3);
        rows.put(0, 7, -4);
        rows.cut(0);
        rows.put(1, 4, 0);
        rows.put(1, 0, 1);
        for (int x = -3; x < 0; x++) {
            valueDue("3 / (x + 4)", rows, x, x == -1 ? 1 : 3, x == -1 ? 1 : x + 4);
        }
        for (int x = 0; x <= 6; x++) {
            valueDue("1 from 0 on", rows, x, 1, 1);
        }
        integralDue("the example", rows, -3, 5, 5, 1, 6);
    }

    private static void namesEachCall(String readme) {
        for (Method m : DefiniteRows.class.getDeclaredMethods()) {
            if (Modifier.isPublic(m.getModifiers())) {
                Check.due("README.md has a row for " + m.getName(), readme.contains("| `" + m.getName() + "("), true);
            }
        }
    }

    private static void namesEachTest(String readme) throws IOException {
        try (DirectoryStream<Path> files = Files.newDirectoryStream(Path.of("src/test/java"), "*.java")) {
            for (Path file : files) {
                String name = file.getFileName().toString().replace(".java", "");
                Check.due("README.md names " + name, readme.contains("`" + name + "`"), true);
            }
        }
    }

    private static void twoEdges() {
        DefiniteRows x = rows(5, -5, 5, -5, 5, -5, 5, 0);
        integralDue("another one first", x, 1, 2, 120 - 180 + 280 - 450 - 60 + 45, 24, 5);
        integralDue("9 to itself", x, 9, 9, 0, 1);
        integralDue("-9 to itself", x, -9, -9, 0, 1);
        DefiniteRows y = rows(0, 0, 0, 0, 0, 0, 0, 4);
        y.mirror();
        numbersDue("p turns where it means nothing", y, 0, 0, 0, 0, 0, 0, 0, 0, -4);
    }
}
