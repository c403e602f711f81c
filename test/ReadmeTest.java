import java.io.IOException;
import java.lang.reflect.Field;
import java.lang.reflect.Method;
import java.lang.reflect.Modifier;
import java.nio.file.Files;
import java.nio.file.Path;
import java.util.ArrayList;
import java.util.List;

/** Whether the program in README.md prints what README.md tells, and all of the face stands in that page. */
public final class ReadmeTest {
    private static final Path PAGE = Path.of("README.md");
    private static final Path SOURCE = Path.of("src", "main", "java", "SealwrightVault.java");

    private ReadmeTest() {
    }

    public static void main(String[] args) throws IOException, InterruptedException {
        String page = Files.readString(PAGE);
        List<String> wrong = new ArrayList<>();
        for (String name : face()) {
            if (!page.contains("`" + name + "`")) {
                wrong.add("the page does not tell of " + name);
            }
        }
        String due = block(page, "text").trim();
        String got = outputOf(block(page, "java"));
        if (!due.equals(got)) {
            wrong.add("the program prints\n" + got + "\nand the page tells\n" + due);
        }
        for (String line : wrong) {
            System.out.println("wrong: " + line);
        }
        System.out.println("readme: " + (wrong.isEmpty() ? "as told" : wrong.size() + " wrong"));
        System.exit(wrong.isEmpty() ? 0 : 1);
    }

    /** All methods, and the constants that are answers of refusal. */
    private static List<String> face() {
        List<String> names = new ArrayList<>();
        for (Method method : SealwrightVault.class.getDeclaredMethods()) {
            if (Modifier.isPublic(method.getModifiers())) {
                names.add(method.getName());
            }
        }
        for (Field field : SealwrightVault.class.getFields()) {
            if (isRefusal(field)) {
                names.add(field.getName());
            }
        }
        return names;
    }

    private static boolean isRefusal(Field field) {
        try {
            return field.getInt(null) < 0;
        } catch (IllegalAccessException e) {
            throw new IllegalStateException(e);
        }
    }

    private static String block(String page, String kind) {
        String mark = "```" + kind + "\n";
        int from = page.indexOf(mark);
        int to = from < 0 ? -1 : page.indexOf("```", from + mark.length());
        return to < 0 ? "" : page.substring(from + mark.length(), to);
    }

    /** Compiles a program with the class, as the page tells to, and runs it. */
    private static String outputOf(String program) throws IOException, InterruptedException {
        Path folder = Files.createTempDirectory("readme");
        Path file = folder.resolve("Example.java");
        Files.writeString(file, program);
        String said = run("javac", "-d", folder.toString(), SOURCE.toString(), file.toString());
        String printed = run("java", "-cp", folder.toString(), "Example");
        try (var inside = Files.list(folder)) {
            for (Path each : inside.toList()) {
                Files.delete(each);
            }
        }
        Files.delete(folder);
        return (said + printed).trim();
    }

    private static String run(String... command) throws IOException, InterruptedException {
        Process process = new ProcessBuilder(command).redirectErrorStream(true).start();
        String output = new String(process.getInputStream().readAllBytes());
        process.waitFor();
        return output;
    }
}
