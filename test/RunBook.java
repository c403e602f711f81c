import java.io.IOException;
import java.lang.reflect.InvocationTargetException;
import java.lang.reflect.Method;
import java.lang.reflect.Modifier;
import java.nio.file.Files;
import java.nio.file.Path;
import java.util.ArrayList;
import java.util.HashMap;
import java.util.List;
import java.util.Map;
import java.util.stream.Collectors;
import java.util.stream.Stream;

/**
 * Runs of calls on new objects, told in files; README.md tells their form. Behind each call it looks, too, whether what
 * had to stay as it was has stayed so (see Refusals).
 */
final class RunBook {
    /** What an object answers behind so many calls is free. */
    private static final int MOST_CALLS = 512;
    private static final Path SETUPS = Path.of("test", "setups.txt");

    /** A run's number, title and outcome. */
    static final class Run {
        final int promise;
        final String title;
        final boolean isRight;

        Run(int promise, String title, boolean isRight) {
            this.promise = promise;
            this.title = title;
            this.isRight = isRight;
        }
    }

    private static final class Line {
        final String text;
        final String where;

        Line(String text, String where) {
            this.text = text;
            this.where = where;
        }
    }

    private final Map<String, Method> calls = new HashMap<>();
    private final Map<String, List<Line>> setups = new HashMap<>();
    private final List<Run> runs = new ArrayList<>();
    private SealwrightVault vault;
    private int callsDone;

    RunBook() {
        for (Method method : SealwrightVault.class.getDeclaredMethods()) {
            if (Modifier.isPublic(method.getModifiers())) {
                calls.put(method.getName(), method);
            }
        }
    }

    /** Runs all files of a folder, by their names, behind the setups that all share. */
    List<Run> runAll(Path folder) throws IOException {
        runFile(SETUPS);
        List<Path> files;
        try (Stream<Path> found = Files.list(folder)) {
            files = found.filter(file -> file.toString().endsWith(".txt")).sorted().collect(Collectors.toList());
        }
        for (Path file : files) {
            runFile(file);
        }
        return runs;
    }

    private void runFile(Path file) throws IOException {
        String heading = null;
        List<Line> lines = new ArrayList<>();
        int number = 0;
        for (String line : Files.readAllLines(file)) {
            number++;
            String text = line.trim();
            if (text.isEmpty() || text.startsWith("#")) {
                continue;
            }
            if (text.startsWith("run ") || text.startsWith("setup ")) {
                endBlock(heading, lines);
                heading = text;
                lines = new ArrayList<>();
            } else {
                lines.add(new Line(text, file.getFileName() + ":" + number));
            }
        }
        endBlock(heading, lines);
    }

    private void endBlock(String heading, List<Line> lines) {
        if (heading == null) {
            return;
        }
        if (heading.startsWith("setup ")) {
            setups.put(heading.substring(6).trim(), lines);
            return;
        }
        int colon = heading.indexOf(':');
        begin();
        boolean isRight = !lines.isEmpty() && runLines(lines);
        runs.add(new Run(Integer.parseInt(heading.substring(4, colon).trim()), heading.substring(colon + 1).trim(), isRight));
        if (!isRight) {
            System.out.println("wrong: " + heading);
        }
    }

    private void begin() {
        vault = new SealwrightVault();
        callsDone = 0;
    }

    private boolean runLines(List<Line> lines) {
        for (Line line : lines) {
            if (!runLine(line)) {
                return false;
            }
        }
        return true;
    }

    private boolean runLine(Line line) {
        if (line.text.equals("anew")) {
            begin();
            return true;
        }
        if (line.text.startsWith("with ")) {
            return runLines(setups.get(line.text.substring(5).trim()));
        }
        String text = line.text;
        int times = 1;
        if (text.startsWith("repeat ")) {
            String[] words = text.split(" ", 3);
            times = Integer.parseInt(words[1]);
            text = words[2];
        }
        for (int i = 0; i < times; i++) {
            for (String each : Words.spread(text)) {
                if (!runCall(each, line.where)) {
                    return false;
                }
            }
        }
        return true;
    }

    private boolean runCall(String text, String where) {
        int end = text.indexOf(')') + 1;
        String call = text.substring(0, end);
        String due = Words.due(text.substring(end).trim());
        callsDone++;
        State before = State.of(vault);
        String got = answer(call);
        String fault = null;
        if (due != null && !due.equals(got)) {
            fault = "but it is " + got;
        } else if (due == null && got.startsWith("throws ")) {
            fault = "but it " + got;
        } else if (callsDone > MOST_CALLS) {
            fault = "but that is behind the call " + MOST_CALLS;
        } else {
            fault = Refusals.fault(call.substring(0, call.indexOf('(')), got, before, State.of(vault));
        }
        if (fault != null) {
            System.out.println(where + ": " + text + ", " + fault);
        }
        return fault == null;
    }

    private String answer(String call) {
        Method method = calls.get(call.substring(0, call.indexOf('(')));
        String inside = call.substring(call.indexOf('(') + 1, call.length() - 1).trim();
        String[] words = inside.isEmpty() ? new String[0] : inside.split("\\s*,\\s*");
        Class<?>[] types = method.getParameterTypes();
        if (words.length != types.length) {
            throw new IllegalArgumentException("wrong number of arguments: " + call);
        }
        Object[] arguments = new Object[types.length];
        for (int i = 0; i < types.length; i++) {
            arguments[i] = types[i] == boolean.class ? (Object) Words.truth(words[i]) : (Object) Words.number(words[i]);
        }
        try {
            return String.valueOf(method.invoke(vault, arguments));
        } catch (InvocationTargetException e) {
            return "throws " + e.getCause().getClass().getSimpleName();
        } catch (IllegalAccessException e) {
            throw new IllegalStateException(e);
        }
    }
}
