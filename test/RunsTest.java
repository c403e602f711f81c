import java.io.IOException;
import java.lang.reflect.Field;
import java.lang.reflect.InvocationTargetException;
import java.lang.reflect.Method;
import java.lang.reflect.Modifier;
import java.nio.file.Files;
import java.nio.file.Path;
import java.util.ArrayList;
import java.util.HashMap;
import java.util.List;
import java.util.Map;
import java.util.Set;
import java.util.TreeSet;
import java.util.stream.Collectors;
import java.util.stream.Stream;

/** Runs of calls on new objects, told in test/runs/*.txt; README.md tells their form. */
public final class RunsTest {
    private static final int PROMISES = 55;
    private static final Path RUNS = Path.of("test", "runs");

    private final Map<String, Method> calls = new HashMap<>();
    private final Map<String, List<Line>> setups = new HashMap<>();
    private final Set<Integer> promisesRun = new TreeSet<>();
    private int passed;
    private int failed;

    private static final class Line {
        final String text;
        final String where;

        Line(String text, String where) {
            this.text = text;
            this.where = where;
        }
    }

    public static void main(String[] args) throws IOException {
        RunsTest test = new RunsTest();
        for (Method method : SealwrightVault.class.getDeclaredMethods()) {
            if (Modifier.isPublic(method.getModifiers())) {
                test.calls.put(method.getName(), method);
            }
        }
        List<Path> files;
        try (Stream<Path> found = Files.list(RUNS)) {
            files = found.filter(file -> file.toString().endsWith(".txt")).sorted().collect(Collectors.toList());
        }
        for (Path file : files) {
            test.runFile(file);
        }
        for (int promise = 1; promise <= PROMISES; promise++) {
            if (!test.promisesRun.contains(promise)) {
                test.fail("promise " + promise + " has no run");
            }
        }
        System.out.println("runs: " + test.passed + " right, " + test.failed + " wrong");
        System.exit(test.failed == 0 && test.passed > 0 ? 0 : 1);
    }

    private void runFile(Path file) throws IOException {
        String heading = null;
        List<Line> lines = new ArrayList<>();
        int number = 0;
        for (String line : Files.readAllLines(file)) {
            number++;
            String text = line.trim();
            if (text.isEmpty() || text.startsWith("#")) {
                continue;
            }
            if (text.startsWith("run ") || text.startsWith("setup ")) {
                endBlock(heading, lines);
                heading = text;
                lines = new ArrayList<>();
            } else {
                lines.add(new Line(text, file.getFileName() + ":" + number));
            }
        }
        endBlock(heading, lines);
    }

    private void endBlock(String heading, List<Line> lines) {
        if (heading == null) {
            return;
        }
        if (heading.startsWith("setup ")) {
            setups.put(heading.substring(6).trim(), lines);
            return;
        }
        promisesRun.add(Integer.valueOf(heading.substring(4, heading.indexOf(':')).trim()));
        if (runLines(new SealwrightVault(), lines)) {
            passed++;
        } else {
            fail(heading);
        }
    }

    private void fail(String what) {
        failed++;
        System.out.println("wrong: " + what);
    }

    private boolean runLines(SealwrightVault vault, List<Line> lines) {
        for (Line line : lines) {
            if (!runLine(vault, line)) {
                return false;
            }
        }
        return true;
    }

    private boolean runLine(SealwrightVault vault, Line line) {
        if (line.text.startsWith("with ")) {
            return runLines(vault, setups.get(line.text.substring(5).trim()));
        }
        String text = line.text;
        int times = 1;
        if (text.startsWith("repeat ")) {
            String[] words = text.split(" ", 3);
            times = Integer.parseInt(words[1]);
            text = words[2];
        }
        for (int i = 0; i < times; i++) {
            String due = dueIn(text);
            String got = answer(vault, text.substring(0, text.indexOf(')') + 1));
            if (due != null && !due.equals(got)) {
                System.out.println(line.where + ": " + text + ", but it is " + got);
                return false;
            }
            if (due == null && got.startsWith("throws ")) {
                System.out.println(line.where + ": " + text + " " + got);
                return false;
            }
        }
        return true;
    }

    /** What stands behind the call: a number, true or false, "throws E", or null for whatever is no exception. */
    private static String dueIn(String text) {
        String rest = text.substring(text.indexOf(')') + 1).trim();
        if (rest.isEmpty()) {
            return null;
        }
        if (rest.startsWith("throws ")) {
            return rest;
        }
        if (!rest.startsWith("=")) {
            throw new IllegalArgumentException("no answer in: " + text);
        }
        String due = rest.substring(1).trim();
        return due.equals("true") || due.equals("false") ? due : Integer.toString(number(due));
    }

    private String answer(SealwrightVault vault, String call) {
        Method method = calls.get(call.substring(0, call.indexOf('(')));
        String inside = call.substring(call.indexOf('(') + 1, call.length() - 1).trim();
        String[] words = inside.isEmpty() ? new String[0] : inside.split("\\s*,\\s*");
        Class<?>[] types = method.getParameterTypes();
        if (words.length != types.length) {
            throw new IllegalArgumentException("wrong number of arguments: " + call);
        }
        Object[] arguments = new Object[types.length];
        for (int i = 0; i < types.length; i++) {
            arguments[i] = types[i] == boolean.class ? (Object) truth(words[i]) : (Object) number(words[i]);
        }
        try {
            return String.valueOf(method.invoke(vault, arguments));
        } catch (InvocationTargetException e) {
            return "throws " + e.getCause().getClass().getSimpleName();
        } catch (IllegalAccessException e) {
            throw new IllegalStateException(e);
        }
    }

    private static boolean truth(String word) {
        if (!word.equals("true") && !word.equals("false")) {
            throw new IllegalArgumentException("neither true nor false: " + word);
        }
        return word.equals("true");
    }

    /** A number, a constant of the face, a path in three segments (1.2.3), or a sum of these. */
    private static int number(String text) {
        int sum = 0;
        for (String word : text.split("\\s*\\+\\s*")) {
            sum += summand(word);
        }
        return sum;
    }

    private static int summand(String word) {
        if (word.matches("\\d\\.\\d\\.\\d")) {
            return 36 * (word.charAt(0) - '0') + 6 * (word.charAt(2) - '0') + word.charAt(4) - '0';
        }
        if (word.matches("-?\\d+")) {
            return Integer.parseInt(word);
        }
        try {
            Field constant = SealwrightVault.class.getField(word);
            return constant.getInt(null);
        } catch (NoSuchFieldException | IllegalAccessException e) {
            throw new IllegalArgumentException("no such constant: " + word);
        }
    }
}
