import java.io.IOException;
import java.nio.file.Path;
import java.util.Set;
import java.util.TreeSet;

/** The runs of calls in test/runs, of which each promise has at least one. */
public final class RunsTest {
    private static final int PROMISES = 55;

    private RunsTest() {
    }

    public static void main(String[] args) throws IOException {
        Set<Integer> promisesRun = new TreeSet<>();
        int right = 0;
        int wrong = 0;
        for (RunBook.Run run : new RunBook().runAll(Path.of("test", "runs"))) {
            promisesRun.add(run.promise);
            if (run.isRight) {
                right++;
            } else {
                wrong++;
            }
        }
        for (int promise = 1; promise <= PROMISES; promise++) {
            if (!promisesRun.contains(promise)) {
                System.out.println("wrong: promise " + promise + " has no run");
                wrong++;
            }
        }
        System.out.println("runs: " + right + " right, " + wrong + " wrong");
        System.exit(wrong == 0 && right > 0 ? 0 : 1);
    }
}
