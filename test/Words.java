import java.lang.reflect.Field;
import java.util.ArrayList;
import java.util.List;

/** What the words of a run's line mean. */
final class Words {
    private Words() {
    }

    /** A line for each of those that stand in braces: {a, b}, or {a..b} for all numbers from a to b. */
    static List<String> spread(String text) {
        List<String> lines = new ArrayList<>();
        int from = text.indexOf('{');
        int to = text.indexOf('}');
        if (from < 0 || to < from) {
            lines.add(text);
            return lines;
        }
        for (String each : choices(text.substring(from + 1, to))) {
            lines.addAll(spread(text.substring(0, from) + each + text.substring(to + 1)));
        }
        return lines;
    }

    private static List<String> choices(String inside) {
        List<String> choices = new ArrayList<>();
        for (String word : inside.split(",")) {
            int dots = word.indexOf("..");
            if (dots < 0) {
                choices.add(word.trim());
                continue;
            }
            int last = number(word.substring(dots + 2).trim());
            for (int i = number(word.substring(0, dots).trim()); i <= last; i++) {
                choices.add(Integer.toString(i));
            }
        }
        return choices;
    }

    /** What stands behind the call: a number, true or false, "throws E", or null for whatever is no exception. */
    static String due(String rest) {
        if (rest.isEmpty()) {
            return null;
        }
        if (rest.startsWith("throws ")) {
            return rest;
        }
        if (!rest.startsWith("=")) {
            throw new IllegalArgumentException("no answer: " + rest);
        }
        String due = rest.substring(1).trim();
        return due.equals("true") || due.equals("false") ? due : Integer.toString(number(due));
    }

    static boolean truth(String word) {
        if (!word.equals("true") && !word.equals("false")) {
            throw new IllegalArgumentException("neither true nor false: " + word);
        }
        return word.equals("true");
    }

    /** A number, a constant of the face, a path in three segments (1.2.3), or a sum of these. */
    static int number(String text) {
        int sum = 0;
        for (String word : text.split("\\s*\\+\\s*")) {
            sum += summand(word);
        }
        return sum;
    }

    private static int summand(String word) {
        if (word.matches("\\d\\.\\d\\.\\d")) {
            return 36 * (word.charAt(0) - '0') + 6 * (word.charAt(2) - '0') + word.charAt(4) - '0';
        }
        if (word.matches("-?\\d+")) {
            return Integer.parseInt(word);
        }
        if (word.equals("MIN") || word.equals("MAX")) {
            return word.equals("MIN") ? Integer.MIN_VALUE : Integer.MAX_VALUE;
        }
        try {
            Field constant = SealwrightVault.class.getField(word);
            return constant.getInt(null);
        } catch (NoSuchFieldException | IllegalAccessException e) {
            throw new IllegalArgumentException("no such constant: " + word);
        }
    }
}
