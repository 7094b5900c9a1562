import java.io.File;
import java.io.IOException;
import java.lang.reflect.Method;
import java.nio.file.Files;
import java.nio.file.Path;
import java.util.List;
import java.util.regex.Matcher;
import java.util.regex.Pattern;

/** README.md: the answers in its example, and that it names each call and each test. */
public final class ReadmeTest {
    private static final Pattern ROW = Pattern.compile("x\\.(\\w+)\\((.*)\\); +// (throws \\w+|[-\\w]+).*");
    private static final int FEWEST_ROWS = 20;

    private ReadmeTest() {
    }

    public static void main(String[] args) throws IOException {
        List<String> lines = Files.readAllLines(Path.of("README.md"));
        checkExample(lines);
        checkNames(String.join("\n", lines));
        Check.finish();
    }

    private static void checkExample(List<String> lines) {
        Check.part("the example");
        PointTables x = new PointTables();
        int rows = 0;
        for (String line : lines) {
            Matcher row = ROW.matcher(line);
            if (row.matches()) {
                Check.due(line, Calls.answer(x, row.group(1), numbersOf(row.group(2))), row.group(3));
                rows++;
            } else {
                Check.due("without an answer: " + line, line.startsWith("x."), false);
            }
        }
        Check.due(rows + " rows are enough", rows >= FEWEST_ROWS, true);
    }

    private static Object[] numbersOf(String told) {
        String[] parts = told.split(", *");
        Object[] numbers = new Object[parts.length];
        for (int i = 0; i < parts.length; i++) {
            boolean isWord = parts[i].equals("true") || parts[i].equals("false");
            // By way of long, since 0xa0000000 is above the greatest int.
            numbers[i] = isWord ? Boolean.valueOf(parts[i]) : (Object) Long.decode(parts[i]).intValue();
        }
        return numbers;
    }

    private static void checkNames(String readme) {
        Check.part("what it names");
        for (Method m : Calls.ofTheFace()) {
            Check.due(m.getName(), readme.contains("`" + m.getName() + "("), true);
        }
        File[] tests = new File("src/test/java").listFiles((dir, name) -> name.endsWith("Test.java"));
        for (File test : tests == null ? new File[0] : tests) {
            String name = test.getName().replace(".java", "");
            Check.due(name, readme.contains("- `" + name + "`:"), true);
        }
        Check.due("tests are there", tests != null && tests.length > 0, true);
        Check.due("how to run the tests", readme.contains("    .ci/run\n"), true);
    }
}
