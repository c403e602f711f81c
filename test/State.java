import java.lang.reflect.Field;
import java.lang.reflect.Modifier;
import java.util.ArrayList;
import java.util.Arrays;
import java.util.List;
import java.util.Set;
import java.util.TreeMap;
import java.util.TreeSet;

/** All that an object holds at one moment, by the names of its parts, so that two moments can be compared. */
final class State {
    private final TreeMap<String, List<Object>> parts = new TreeMap<>();

    private State() {
    }

    static State of(SealwrightVault vault) {
        State state = new State();
        try {
            for (Field field : SealwrightVault.class.getDeclaredFields()) {
                if (!Modifier.isStatic(field.getModifiers())) {
                    field.setAccessible(true);
                    List<Object> held = new ArrayList<>();
                    gather(field.get(vault), held);
                    state.parts.put(field.getName(), held);
                }
            }
        } catch (IllegalAccessException e) {
            throw new IllegalStateException(e);
        }
        return state;
    }

    private static void gather(Object value, List<Object> held) throws IllegalAccessException {
        if (value instanceof int[]) {
            held.add(((int[]) value).clone());
        } else if (value instanceof boolean[]) {
            held.add(((boolean[]) value).clone());
        } else if (value instanceof Number || value instanceof Boolean) {
            held.add(value);
        } else {
            for (Field field : value.getClass().getDeclaredFields()) {
                if (!Modifier.isStatic(field.getModifiers())) {
                    field.setAccessible(true);
                    gather(field.get(value), held);
                }
            }
        }
    }

    /** The names of the parts that are otherwise at the other moment. */
    Set<String> differences(State other) {
        Set<String> names = new TreeSet<>();
        for (String name : parts.keySet()) {
            if (!Arrays.deepEquals(parts.get(name).toArray(), other.parts.get(name).toArray())) {
                names.add(name);
            }
        }
        return names;
    }
}
