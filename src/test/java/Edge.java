import java.io.IOException;
import java.nio.file.Files;
import java.nio.file.Path;
import java.util.List;
import java.util.Map;
import java.util.TreeMap;
import java.util.regex.Matcher;
import java.util.regex.Pattern;

/**
 * One test for each case of a sentence of the document that names a boundary. Each gives the
 * sentence as the document has it, so that a test whose sentence has changed or gone is told.
 */
final class Edge {
    /** In place of a promise's number: what stands ahead of the promises. */
    static final int TERMS = 0;
    static final int LAST_PROMISE = 29;

    private static final Path DOCUMENT = Path.of("../shared/DOC.md");
    private static final Pattern HEADING = Pattern.compile("## Promise (\\d+):.*");

    private static final Map<Integer, Integer> COUNTS = new TreeMap<>();
    private static Map<Integer, String> sections = null;

    private Edge() {
    }

    interface Case {
        void ask();
    }

    static void of(int promise, String sentence, String which, Case asked) {
        Check.part((promise == TERMS ? "terms" : "promise " + promise) + ", \"" + sentence + "\", " + which);
        COUNTS.merge(promise, 1, Integer::sum);
        if (sections != null && !sections.getOrDefault(promise, "").contains(sentence)) {
            Check.tellWrong("the document has no such sentence there");
        }
        int before = Check.asked();
        try {
            asked.ask();
        } catch (RuntimeException e) {
            Check.tellWrong("threw " + e);
        }
        if (Check.asked() == before) {
            Check.tellWrong("nothing was asked");
        }
    }

    static void readDocument() throws IOException {
        if (!Files.isReadable(DOCUMENT)) {
            System.out.println(DOCUMENT + " is not here: the sentences are not held against it");
            return;
        }
        sections = sectionsOf(Files.readAllLines(DOCUMENT));
    }

    private static Map<Integer, String> sectionsOf(List<String> lines) {
        Map<Integer, String> found = new TreeMap<>();
        int promise = TERMS;
        for (String line : lines) {
            Matcher heading = HEADING.matcher(line);
            if (heading.matches()) {
                promise = Integer.parseInt(heading.group(1));
            } else {
                found.merge(promise, line.trim(), (above, below) -> above + " " + below);
            }
        }
        return found;
    }

    /** Fails where a promise has no test of this kind. */
    static void finish() {
        Check.part("the sentences");
        int cases = 0;
        for (int promise = TERMS; promise <= LAST_PROMISE; promise++) {
            int count = COUNTS.getOrDefault(promise, 0);
            Check.due("promise " + promise + " has a test", count > 0, true);
            cases += count;
        }
        System.out.println(cases + " cases of sentences");
        Check.finish();
    }
}
