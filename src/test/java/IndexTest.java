import java.nio.file.Files;
import java.nio.file.Path;
import java.util.HashMap;
import java.util.List;
import java.util.Map;
import java.util.regex.Matcher;
import java.util.regex.Pattern;

/**
 * EDGES.md says which test holds which sentence: the sentence is the document's, and the test is there and is run.
 * README.md tells each call of the document's face.
 */
public final class IndexTest {
    private static final Map<String, String> sources = new HashMap<>();

    public static void main(String[] args) throws Exception {
        String document = oneLine(Files.readString(Path.of("../shared/DOC.md")));
        List<String> lines = Files.readAllLines(Path.of("src/test/EDGES.md"));
        int rows = 0, runs = 0;
        for (String line : lines) {
            String[] cells = line.split(" \\| | \\|$|^\\| ");
            if (cells.length != 3 || cells[1].equals("sentence") || cells[1].startsWith("---")) continue;
            rows++;
            if (cells[1].startsWith("Promise " + (runs + 1) + ":")) runs++;
            Check.holds("the document says: " + cells[1], document.contains(oneLine(cells[1])));
            for (String test : cells[2].split(", ")) isRun(test);
        }
        Check.holds("there are sentences for all promises: " + rows, rows > 23);
        Check.due("promises that have a run of many calls", runs, 23);
        readme(document);
        Check.finish();
    }

    private static void readme(String document) throws Exception {
        String readme = Files.readString(Path.of("README.md"));
        Matcher call = Pattern.compile("public (?:int |long |)(\\w+\\([^)]*\\));").matcher(document);
        int calls = 0;
        while (call.find()) {
            calls++;
            Check.holds("README.md tells " + call.group(1), readme.contains("| `" + call.group(1) + "` |"));
        }
        Check.due("calls of the face", calls, 23);
    }

    private static String oneLine(String text) {
        return text.replaceAll("\\s+", " ");
    }

    private static void isRun(String test) throws Exception {
        String[] parts = test.trim().split("\\.");
        if (!sources.containsKey(parts[0])) {
            Path file = Path.of("src/test/java/" + parts[0] + ".java");
            sources.put(parts[0], Files.exists(file) ? Files.readString(file) : "");
        }
        String source = sources.get(parts[0]);
        Check.holds(test + " is there", source.matches("(?s).*static void " + parts[1] + "\\(.*"));
        Check.holds(test + " is run", source.split("\\b" + parts[1] + "\\(", -1).length > 2);
    }
}
