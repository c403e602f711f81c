import java.io.IOException;
import java.nio.file.Files;
import java.nio.file.Path;
import java.util.ArrayList;
import java.util.List;
import java.util.Map;
import java.util.Set;
import java.util.TreeMap;
import java.util.TreeSet;

/**
 * The runs of calls in test/bounds, each for a sentence of the document. It fails if a sentence from 'Terms' on has
 * neither a run nor stands in test/bounds/without.list, among those that name no boundary case.
 */
public final class BoundsTest {
    private static final Path DOCUMENT = Path.of("..", "shared", "DOC.md");
    private static final Path FOLDER = Path.of("test", "bounds");
    private static final String PROMISE = "## Promise ";

    private BoundsTest() {
    }

    public static void main(String[] args) throws IOException {
        Map<Integer, Set<String>> told = sentences();
        Map<Integer, Set<String>> left = sentences();
        int right = 0;
        int wrong = 0;
        for (RunBook.Run run : new RunBook().runAll(FOLDER)) {
            if (!told.getOrDefault(run.promise, Set.of()).contains(run.title)) {
                System.out.println("wrong: the document has no such sentence: " + run.promise + ": " + run.title);
                wrong++;
            } else if (run.isRight) {
                left.get(run.promise).remove(run.title);
                right++;
            } else {
                wrong++;
            }
        }
        for (String line : Files.readAllLines(FOLDER.resolve("without.list"))) {
            int colon = line.indexOf(':');
            if (!line.startsWith("#") && colon > 0 && !left.get(Integer.parseInt(line.substring(0, colon))).remove(line.substring(colon + 1).trim())) {
                System.out.println("wrong: no such sentence, or it has a run: " + line);
                wrong++;
            }
        }
        for (Map.Entry<Integer, Set<String>> entry : left.entrySet()) {
            for (String sentence : entry.getValue()) {
                System.out.println("wrong: no run for: " + entry.getKey() + ": " + sentence);
                wrong++;
            }
        }
        System.out.println("bounds: " + right + " right, " + wrong + " wrong");
        System.exit(wrong == 0 && right > 0 ? 0 : 1);
    }

    /** The document's sentences by their promises, 0 for what stands ahead of the first one, from 'Terms' on. */
    private static Map<Integer, Set<String>> sentences() throws IOException {
        Map<Integer, Set<String>> found = new TreeMap<>();
        int promise = 0;
        boolean isBegun = false;
        for (String raw : Files.readAllLines(DOCUMENT)) {
            String line = raw.trim();
            isBegun |= line.equals("## Terms");
            if (line.equals("## Not promised")) {
                break;
            }
            if (line.startsWith(PROMISE)) {
                promise = Integer.parseInt(line.substring(PROMISE.length(), line.indexOf(':')));
            }
            if (isBegun && !line.isEmpty() && !line.startsWith("#")) {
                found.computeIfAbsent(promise, key -> new TreeSet<>()).addAll(sentencesOf(line, promise));
            }
        }
        return found;
    }

    private static List<String> sentencesOf(String line, int promise) {
        boolean isOne = line.startsWith("- ") || line.startsWith("Returns ") || line.startsWith("Throws ");
        if (isOne && promise > 0) {
            return List.of(line);
        }
        // The face of the call stands ahead of what it does.
        String text = promise > 0 ? line.replaceFirst("^`[^`]*`: ", "") : line;
        List<String> sentences = new ArrayList<>();
        for (String sentence : text.split("(?<=[.;]) ")) {
            sentences.add(sentence.trim());
        }
        return sentences;
    }
}
