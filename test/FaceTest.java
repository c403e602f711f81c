import java.io.IOException;
import java.lang.reflect.Constructor;
import java.lang.reflect.Field;
import java.lang.reflect.Method;
import java.lang.reflect.Modifier;
import java.nio.file.Files;
import java.nio.file.Path;
import java.util.ArrayList;
import java.util.HashSet;
import java.util.List;
import java.util.Set;
import java.util.TreeSet;
import java.util.regex.Matcher;
import java.util.regex.Pattern;

/** Whether the class has the face that ../shared/DOC.md tells, nothing beside it, and keeps to what LANGUAGE.md counts. */
public final class FaceTest {
    private static final Path DOCUMENT = Path.of("..", "shared", "DOC.md");
    private static final Path SOURCE = Path.of("src", "main", "java", "SealwrightVault.java");
    private static final int MOST_CLASSES = 12;
    private static final int MOST_FIELDS = 20;
    private static final int MOST_PARAMETERS = 7;
    private static final int MOST_LINES_OF_METHOD = 60;

    private final List<String> wrong = new ArrayList<>();

    public static void main(String[] args) throws Exception {
        FaceTest test = new FaceTest();
        test.checkFace();
        test.checkInside();
        test.checkWords();
        test.checkLengths();
        for (String line : test.wrong) {
            System.out.println("wrong: " + line);
        }
        System.out.println("face: " + (test.wrong.isEmpty() ? "as told" : test.wrong.size() + " wrong"));
        System.exit(test.wrong.isEmpty() ? 0 : 1);
    }

    private void demand(boolean isRight, String what) {
        if (!isRight) {
            wrong.add(what);
        }
    }

    private void checkFace() throws IOException {
        Set<String> due = new TreeSet<>();
        Set<String> dueConstants = new TreeSet<>();
        String text = Files.readString(DOCUMENT);
        String block = text.substring(text.indexOf("```java"), text.indexOf("```", text.indexOf("```java") + 3));
        for (String line : block.split("\n")) {
            String trimmed = line.trim();
            if (trimmed.startsWith("public static final int ")) {
                for (String constant : trimmed.substring(24).replace(";", "").split(",")) {
                    dueConstants.add(constant.trim());
                }
            } else if (trimmed.startsWith("public ") && trimmed.endsWith(";")) {
                due.add(told(trimmed));
            }
        }
        Set<String> there = new TreeSet<>();
        for (Method method : SealwrightVault.class.getDeclaredMethods()) {
            if (!Modifier.isPrivate(method.getModifiers())) {
                demand(method.getModifiers() == Modifier.PUBLIC, "modifiers of " + method.getName());
                there.add(signature(method.getReturnType() + " " + method.getName(), method.getParameterTypes(), method.getExceptionTypes()));
            }
        }
        for (Constructor<?> constructor : SealwrightVault.class.getDeclaredConstructors()) {
            demand(constructor.getModifiers() == Modifier.PUBLIC, "modifiers of the constructor");
            there.add(signature("SealwrightVault", constructor.getParameterTypes(), constructor.getExceptionTypes()));
        }
        demand(due.equals(there), "methods: due " + due + " there " + there);
        demand(dueConstants.equals(constantsThere()), "constants: due " + dueConstants + " there " + constantsThere());
        demand(SealwrightVault.class.getModifiers() == (Modifier.PUBLIC | Modifier.FINAL), "modifiers of the class");
        demand(due.size() == 55, "55 promises");
    }

    private Set<String> constantsThere() {
        Set<String> there = new TreeSet<>();
        for (Field field : SealwrightVault.class.getDeclaredFields()) {
            if (Modifier.isPrivate(field.getModifiers())) {
                continue;
            }
            try {
                there.add(field.getName() + " = " + field.getInt(null));
            } catch (IllegalAccessException e) {
                there.add("no constant: " + field);
            }
        }
        return there;
    }

    private static String told(String line) {
        Matcher parts = Pattern.compile("public (.*?)\\((.*?)\\)(?: throws (.*))?;").matcher(line);
        if (!parts.matches()) {
            throw new IllegalStateException(line);
        }
        List<String> types = new ArrayList<>();
        for (String parameter : parts.group(2).split(",")) {
            if (!parameter.isBlank()) {
                types.add(parameter.trim().split(" ")[0]);
            }
        }
        String exceptions = parts.group(3) == null ? "" : parts.group(3);
        return parts.group(1) + "(" + String.join(", ", types) + ") " + exceptions;
    }

    private static String signature(String head, Class<?>[] parameters, Class<?>[] exceptions) {
        return head + "(" + names(parameters) + ") " + names(exceptions);
    }

    private static String names(Class<?>[] types) {
        List<String> names = new ArrayList<>();
        for (Class<?> type : types) {
            names.add(type.getSimpleName());
        }
        return String.join(", ", names);
    }

    private void checkInside() {
        Set<String> publicNames = new HashSet<>();
        for (Method method : SealwrightVault.class.getDeclaredMethods()) {
            if (Modifier.isPublic(method.getModifiers())) {
                publicNames.add(method.getName());
            }
        }
        List<Class<?>> classes = new ArrayList<>(List.of(SealwrightVault.class.getDeclaredClasses()));
        for (Class<?> inside : classes) {
            demand(Modifier.isStatic(inside.getModifiers()), inside + " is static");
            demand(!Modifier.isPublic(inside.getModifiers()) && !Modifier.isProtected(inside.getModifiers()), inside + " is no part of the face");
        }
        classes.add(SealwrightVault.class);
        demand(classes.size() <= MOST_CLASSES, "classes: " + classes.size());
        for (Class<?> each : classes) {
            int fields = 0;
            for (Field field : each.getDeclaredFields()) {
                boolean isStatic = Modifier.isStatic(field.getModifiers());
                demand(!isStatic || Modifier.isFinal(field.getModifiers()), field + " is final");
                fields += isStatic ? 0 : 1;
            }
            demand(fields <= MOST_FIELDS, "fields of " + each + ": " + fields);
            for (Method method : each.getDeclaredMethods()) {
                boolean isFace = each == SealwrightVault.class && Modifier.isPublic(method.getModifiers());
                demand(isFace || !publicNames.contains(method.getName()), method + " bears the name of a public one");
                demand(isFace || method.getParameterCount() <= MOST_PARAMETERS, "parameters of " + method);
            }
        }
    }

    /** What the language leaves out, and this program has no need of. */
    private void checkWords() throws IOException {
        String source = code();
        String[] words = {"package", "import", "synchronized", "assert", "finally", "try", "catch", "var", "record", "enum",
            "protected", "native", "volatile", "transient", "strictfp", "String", "Object", "System", "Thread", "Arrays"};
        for (String word : words) {
            demand(!Pattern.compile("\\b" + word + "\\b").matcher(source).find(), "the word " + word);
        }
        demand(!source.contains("->") && !source.contains("::") && !source.contains("@"), "a lambda, reference or annotation");
        for (Matcher made = Pattern.compile("\\bnew (\\w+)").matcher(source); made.find();) {
            String what = made.group(1);
            boolean isRow = what.equals("int") || what.equals("boolean");
            boolean isException = what.endsWith("Exception");
            demand(isRow || isException || Character.isUpperCase(what.charAt(0)), "new " + what);
            String line = source.substring(source.lastIndexOf('\n', made.start()), source.indexOf('\n', made.start()));
            demand(isException ? line.contains("throw new") : line.contains("private final"), "made by a call: " + line.trim());
        }
    }

    private void checkLengths() throws IOException {
        int begun = -1;
        String[] lines = code().split("\n");
        for (int i = 0; i < lines.length; i++) {
            if (lines[i].matches("\\s+(?!private static final class|static final class).*\\) *(throws [\\w, ]+)?\\{") && !lines[i].matches("\\s+(if|for|while|switch|\\}).*")) {
                begun = i;
            }
            if (begun >= 0 && lines[i].equals(lines[begun].replaceAll("\\S.*", "") + "}")) {
                demand(i - begun < MOST_LINES_OF_METHOD, "a long method: " + lines[begun].trim());
                begun = -1;
            }
        }
        for (char sign : Files.readString(SOURCE).toCharArray()) {
            demand(sign < 127, "a sign beyond ASCII: " + (int) sign);
        }
    }

    private static String code() throws IOException {
        String source = Files.readString(SOURCE);
        return source.replaceAll("(?s)/\\*.*?\\*/", "").replaceAll("//[^\n]*", "");
    }
}
