import java.lang.reflect.InvocationTargetException;
import java.lang.reflect.Method;
import java.lang.reflect.Modifier;
import java.util.ArrayList;
import java.util.Comparator;
import java.util.List;
import java.util.Random;

/**
 * Long runs of calls drawn by fixed seeds: only exceptions that the face tells may come, thrown by the program and not
 * by the machine; calls that throw change nothing; and what is promised of every state holds behind every call.
 */
public final class RandomRunsTest {
    private static final int RUNS = 400;
    private static final int CALLS = 900;
    private static final int[] EDGES = {Integer.MIN_VALUE, -1000, -3, -2, -1, 0, 1, 2, 3, 4, 5, 6, 7, 8, 9, 10, 15, 16, 19, 20, 21, 24, 25, 29, 30,
        35, 36, 39, 40, 41, 49, 50, 51, 99, 100, 101, 200, 201, 215, 216, 255, 256, 257, 1000, 1001, 9999, 10000, 65535, 65536, 1 << 30, Integer.MAX_VALUE};

    private static int wrong;

    public static void main(String[] args) {
        List<Method> calls = new ArrayList<>();
        for (Method method : SealwrightVault.class.getDeclaredMethods()) {
            if (Modifier.isPublic(method.getModifiers())) {
                calls.add(method);
            }
        }
        calls.sort(Comparator.comparing(Method::getName));
        for (int seed = 0; seed < RUNS && wrong == 0; seed++) {
            run(seed, calls);
        }
        System.out.println("random runs: " + (wrong == 0 ? "all as promised" : wrong + " wrong"));
        System.exit(wrong == 0 ? 0 : 1);
    }

    private static void run(int seed, List<Method> calls) {
        Random random = new Random(seed);
        // The second one is spared the calls that throw; it has to answer all the others alike.
        SealwrightVault vault = new SealwrightVault();
        SealwrightVault spared = new SealwrightVault();
        begin(random, vault, spared);
        for (int i = 0; i < CALLS; i++) {
            Method method = calls.get(random.nextInt(calls.size()));
            boolean isRare = method.getName().equals("seal") || method.getName().equals("merge") || method.getName().equals("clear");
            if (isRare && random.nextInt(8) != 0) {
                continue;
            }
            Object[] arguments = draw(random, method);
            Object answer = answer(vault, method, arguments);
            boolean isThrown = answer instanceof Throwable;
            if (isThrown && !isTold(method, (Throwable) answer)) {
                tell(seed, i, method, arguments, "threw " + answer);
                ((Throwable) answer).printStackTrace(System.out);
                return;
            }
            if (!isThrown && !String.valueOf(answer).equals(String.valueOf(answer(spared, method, arguments)))) {
                tell(seed, i, method, arguments, "answered otherwise behind calls that threw");
                return;
            }
            if (!holds(vault)) {
                tell(seed, i, method, arguments, "left a state that is not promised");
                return;
            }
            if (!vault.isOpen() && random.nextInt(3) == 0) {
                openAgain(vault, spared);
            }
        }
    }

    private static void begin(Random random, SealwrightVault... vaults) {
        int seed = random.nextInt(65536);
        int shares = 1 + random.nextInt(6);
        int threshold = 1 + random.nextInt(shares);
        int approve = random.nextInt(4) == 0 ? 1 : 0;
        for (SealwrightVault vault : vaults) {
            vault.deal(seed, shares, threshold);
            vault.mount(0, SealwrightVault.VALUES, 0);
            vault.mount(1, SealwrightVault.CREDENTIALS, 1);
            vault.mount(2, SealwrightVault.CERTIFICATES, 0);
            vault.rule(0, SealwrightVault.REST, 0, 0, 15, approve);
            vault.setPolicies(0, 0, 1);
            for (int name = 0; name < 6; name++) {
                vault.alias(0, name, name);
            }
            openAgain(vault);
            for (int name = 0; name < 6; name++) {
                vault.login(0, name);
            }
            vault.token(SealwrightVault.NONE, SealwrightVault.SERVICE, 255, 100, 200, SealwrightVault.NONE, 15, false);
        }
    }

    private static void openAgain(SealwrightVault... vaults) {
        for (SealwrightVault vault : vaults) {
            // What was drawn and given before would be in the way.
            vault.seal();
            for (int share = 1; share <= 6 && !vault.isOpen(); share++) {
                vault.give(share, vault.share(share));
            }
        }
    }

    private static Object[] draw(Random random, Method method) {
        Class<?>[] types = method.getParameterTypes();
        Object[] arguments = new Object[types.length];
        boolean isWild = random.nextInt(6) == 0;
        for (int i = 0; i < types.length; i++) {
            if (types[i] == boolean.class) {
                arguments[i] = random.nextBoolean();
            } else if (isWild) {
                arguments[i] = EDGES[random.nextInt(EDGES.length)];
            } else {
                arguments[i] = fitting(random, method.getName(), i);
            }
        }
        return arguments;
    }

    /** Mostly such as the calls take, so that the runs go deep. */
    private static int fitting(Random random, String name, int index) {
        boolean isRequest = "read write erase issue wrap certify".contains(name);
        if (isRequest && index == 2) {
            int first = name.equals("issue") ? 1 : name.equals("certify") ? 2 : 0;
            return 36 * first + random.nextInt(2) * 6 + random.nextInt(2);
        }
        if ((name.equals("farRead") || name.equals("may")) && index == 1 || name.equals("keyOf") && index == 0) {
            return random.nextInt(2) * 6 + random.nextInt(2);
        }
        if (name.equals("pass")) {
            return 1 + random.nextInt(random.nextInt(10) == 0 ? 50 : 2);
        }
        if (name.equals("token")) {
            int[] drawn = {random.nextInt(12) - 1, random.nextInt(3), random.nextInt(2), 1 + random.nextInt(100), 100 + random.nextInt(101),
                random.nextBoolean() ? -1 : 1 + random.nextInt(20), 1 + random.nextInt(15)};
            return drawn[index];
        }
        if (name.equals("setQuota") && index == 1) {
            return 90 + random.nextInt(11);
        }
        if (name.equals("setSink") && index == 3) {
            return 1 + random.nextInt(1000);
        }
        return random.nextInt(random.nextInt(3) == 0 ? 10 : 4) + (random.nextInt(20) == 0 ? -1 : 0);
    }

    private static Object answer(SealwrightVault vault, Method method, Object[] arguments) {
        try {
            return method.invoke(vault, arguments);
        } catch (InvocationTargetException e) {
            return e.getCause();
        } catch (IllegalAccessException e) {
            throw new IllegalStateException(e);
        }
    }

    /** A class below one that is told would be thrown by the machine, and so would one that begins outside of the program. */
    private static boolean isTold(Method method, Throwable thrown) {
        boolean isOwn = thrown.getStackTrace().length > 0 && thrown.getStackTrace()[0].getClassName().startsWith("SealwrightVault");
        for (Class<?> type : method.getExceptionTypes()) {
            if (type == thrown.getClass()) {
                return isOwn;
            }
        }
        return false;
    }

    private static boolean holds(SealwrightVault vault) {
        boolean holds = vault.cases() <= 20;
        for (int system = 0; system < 3; system++) {
            holds &= vault.credentials(system) == vault.credentialsAnew(system);
        }
        for (int sink = 0; sink < 3; sink++) {
            holds &= vault.hash(sink) >= 0 && vault.hash(sink) < 65521;
        }
        return holds;
    }

    private static void tell(int seed, int number, Method method, Object[] arguments, String what) {
        wrong++;
        System.out.println("seed " + seed + ", call " + number + ": " + method.getName() + java.util.Arrays.toString(arguments) + " " + what);
    }
}
