import java.lang.reflect.InvocationTargetException;
import java.lang.reflect.Method;
import java.lang.reflect.Modifier;
import java.util.ArrayList;
import java.util.Arrays;
import java.util.HashMap;
import java.util.List;
import java.util.Map;
import java.util.Random;

/**
 * Holds the class against Model, which tells the document once more: runs of up to 512 calls, drawn by fixed seeds, to
 * which both have to answer alike. Each run leans on some of the calls, so that it goes deep there.
 */
public final class ModelTest {
    private static final int RUNS = 3000;
    private static final int MOST_CALLS = 512;
    private static final int[] EDGES = {Integer.MIN_VALUE, -1000, -2, -1, 0, 1, 2, 3, 4, 5, 6, 7, 8, 9, 10, 15, 16, 20, 21, 29, 30, 31, 39, 40,
        41, 50, 51, 100, 101, 200, 201, 215, 216, 255, 256, 257, 1000, 1001, 9999, 10000, 65535, 65536, Integer.MAX_VALUE};

    /** What a call's arguments are, in their order. */
    private static final Map<String, String> KINDS = kinds(
        "deal: seed shares threshold", "share: share", "give: share value", "seal:", "isOpen:", "dealAnew: seed shares threshold",
        "giveAnew: share value", "setBounds: bound bound", "turn:", "retire: key", "rewrap: few", "key:", "mount: first engine ofEngine",
        "setQuota: first quota", "rule: policy part part part powers approve", "clear: policy", "setPolicies: what who set",
        "alias: method name personOrNone", "merge: person person", "member: group truth member truth", "login: method name",
        "token: tokenOrNone kind set long most uses places truth", "renewToken: token long", "revokeToken: token", "uses: token",
        "lives: token", "may: token path", "read: token place path version", "write: token place path number expected",
        "erase: token place path version state", "keyOf: path version", "setSystem: system how", "issue: token place path hours most",
        "renew: lease hours", "revoke: first secondOrNone", "stateOf: lease", "endOf: lease", "credentials: system",
        "credentialsAnew: system", "wrap: token place path version", "open: wrap", "approve: token place case", "takeUp: token place case",
        "cases:", "certify: token place path hours", "revokeCertificate: certificate", "publish:", "isGood: certificate",
        "issuerOf: certificate", "setSink: sink truth seldom salt", "hash: sink", "ship: few", "farRead: token path version", "pass: time");

    /** The least and the greatest that a call takes; of hours and counts those that most calls take. */
    private static final Map<String, int[]> ENDS = ends(
        "seed 0 65535", "shares 1 6", "threshold 1 6", "share 1 6", "value 0 256", "bound 1 1000", "few 1 50", "first 0 5", "engine -1 2",
        "ofEngine 0 2", "quota 0 100", "policy 0 7", "part 0 8", "powers 0 15", "approve 0 2", "what 0 2", "who 0 7", "set 0 255",
        "method 0 2", "name 0 5", "personOrNone -1 7", "person 0 7", "group 0 3", "member 0 7", "kind 0 2", "hours 1 50", "long 1 100", "most 1 200",
        "uses 1 20", "places 1 15", "path 0 215", "place 0 3", "version 0 9999", "number 0 9999", "expected -1 9999", "state 0 2",
        "system 0 2", "how 0 2", "secondOrNone -1 5", "salt 1 1000", "sink 0 2", "time 1 50");

    /** The calls on which a run leans. */
    private static final String[] LEANINGS = {
        "give giveAnew dealAnew seal isOpen share deal",
        "write rewrap turn retire setBounds keyOf pass read key",
        "write erase read keyOf ship farRead mount farRead retire",
        "rule clear may may may setPolicies member merge alias login",
        "token token revokeToken renewToken lives uses login pass read issue",
        "issue renew revoke stateOf endOf setSystem pass credentials credentialsAnew revokeToken renewToken",
        "read wrap open approve approve takeUp takeUp cases merge rule write",
        "certify certify revokeCertificate publish isGood issuerOf pass",
        "setSink hash read write erase issue certify wrap approve setQuota",
        "mount mount read write write issue certify revoke stateOf takeUp ship farRead farRead"};

    /** After which less is let, so that a run with many of these stays shallow. */
    private static final List<String> HARSH = List.of("seal", "clear", "revokeToken", "mount", "retire", "merge", "setQuota", "setSink", "rule", "setPolicies");

    /** What a call makes, if its answer is a number. */
    private static final Map<String, String> MAKING = Map.of("login", "token", "token", "token", "issue", "lease", "wrap", "wrap", "certify", "certificate");

    private final Random random;
    private final String[] leaning;
    private final SealwrightVault vault = new SealwrightVault();
    private final Model model = new Model();
    private final Map<String, Integer> made = new HashMap<>();
    private final List<Integer> askers = new ArrayList<>();
    private final List<String> told = new ArrayList<>();
    private boolean isRight = true;

    private ModelTest(int seed) {
        random = new Random(seed);
        leaning = LEANINGS[seed % LEANINGS.length].split(" ");
    }

    public static void main(String[] args) {
        int runs = args.length > 0 ? Integer.parseInt(args[0]) : RUNS;
        Map<String, Integer> answers = new HashMap<>();
        for (int seed = 0; seed < runs; seed++) {
            ModelTest test = new ModelTest(seed);
            test.run(answers);
            if (!test.isRight) {
                System.out.println("seed " + seed + ":\n" + String.join("\n", test.told));
                System.exit(1);
            }
        }
        if (args.length > 1) {
            answers.keySet().stream().sorted().forEach(each -> System.out.println(each + ": " + answers.get(each)));
        }
        System.out.println("model: " + runs + " runs answered alike");
    }

    private static Map<String, String> kinds(String... lines) {
        Map<String, String> kinds = new HashMap<>();
        for (String line : lines) {
            kinds.put(line.substring(0, line.indexOf(':')), line.substring(line.indexOf(':') + 1).trim());
        }
        return kinds;
    }

    private static Map<String, int[]> ends(String... lines) {
        Map<String, int[]> ends = new HashMap<>();
        for (String line : lines) {
            String[] words = line.split(" ");
            ends.put(words[0], new int[] {Integer.parseInt(words[1]), Integer.parseInt(words[2])});
        }
        return ends;
    }

    private void run(Map<String, Integer> answers) {
        begin();
        List<String> all = new ArrayList<>(KINDS.keySet());
        all.sort(null);
        while (isRight && told.size() < MOST_CALLS) {
            String name = random.nextInt(4) == 0 ? all.get(random.nextInt(all.size())) : leaning[random.nextInt(leaning.length)];
            boolean isOften = Arrays.asList(leaning).contains(name) && !name.equals("seal");
            if (HARSH.contains(name) && random.nextInt(isOften ? 3 : 12) != 0) {
                continue;
            }
            String answer = both(name, draw(name));
            answers.merge(name + " " + sort(answer), 1, Integer::sum);
            if (!model.isOpen() && random.nextInt(3) == 0) {
                open();
            }
        }
    }

    private static String sort(String answer) {
        return answer.matches("-\\d+") || answer.matches("[a-z].*") ? answer : "number";
    }

    private void begin() {
        both("deal", random.nextInt(65536), 1 + random.nextInt(3), 1);
        open();
        both("mount", 0, 0, 0);
        both("mount", 1, 1, random.nextInt(3));
        both("mount", 2, 2, 0);
        both("mount", 3, 0, 0);
        both("rule", 0, 8, 0, 0, 15, leaning[1].equals("wrap") ? random.nextInt(3) : 0);
        both("rule", 1, 6, 6, 8, 1 + random.nextInt(15), random.nextInt(3));
        both("setPolicies", 0, 0, 1);
        both("setPolicies", 0, 1, random.nextBoolean() ? 1 : 3);
        for (int i = 0; i < 5; i++) {
            both("alias", random.nextInt(2), i, random.nextInt(8));
        }
        for (int i = 0; i < 5; i++) {
            both("login", random.nextInt(2), i);
        }
        both("token", -1, 0, 255, 100, 200, -1, 15, false);
        for (int path = 0; path < 2; path++) {
            both("write", one("token"), 0, path, random.nextInt(10000), -1);
        }
    }

    private void open() {
        for (int share = 1; share <= 6 && !model.isOpen(); share++) {
            both("give", share, shareOrNothing(share));
        }
    }

    private Object[] draw(String name) {
        String[] kinds = KINDS.get(name).isEmpty() ? new String[0] : KINDS.get(name).split(" ");
        Object[] arguments = new Object[kinds.length];
        for (int i = 0; i < kinds.length; i++) {
            switch (kinds[i]) {
                case "truth":
                    arguments[i] = random.nextBoolean();
                    break;
                case "seldom":
                    arguments[i] = random.nextInt(6) == 0;
                    break;
                case "path":
                    arguments[i] = path(name);
                    break;
                default:
                    arguments[i] = drawn(kinds[i], i == 0 ? NOTHING : arguments[i - 1]);
            }
        }
        if (name.equals("takeUp") && random.nextInt(4) != 0 && !askers.isEmpty()) {
            int which = random.nextInt(askers.size());
            arguments[0] = askers.get(which);
            arguments[2] = which;
        }
        if (kinds.length > 0 && random.nextInt(14) == 0) {
            int which = random.nextInt(kinds.length);
            if (arguments[which] instanceof Integer) {
                arguments[which] = edge(kinds[which]);
            }
        }
        return arguments;
    }

    private static final Object NOTHING = 0;

    private int edge(String kind) {
        int[] ends = ENDS.get(kind);
        if (ends == null || random.nextInt(3) == 0) {
            return EDGES[random.nextInt(EDGES.length)];
        }
        int end = ends[random.nextInt(2)];
        return random.nextBoolean() ? end : end + (end == ends[0] ? -1 : 1);
    }

    /** Mostly one at which the engine is for the call. */
    private int path(String name) {
        int first = name.equals("issue") ? 1 : name.equals("certify") ? 2 : random.nextInt(4) == 0 ? 3 : 0;
        if (random.nextInt(12) == 0 || name.equals("may")) {
            first = random.nextInt(6);
        }
        return 36 * first + 6 * random.nextInt(random.nextInt(6) == 0 ? 6 : 2) + random.nextInt(random.nextInt(4) == 0 ? 6 : 2);
    }

    /** One that mostly fits, and may lean on the argument ahead of it. */
    private int drawn(String kind, Object ahead) {
        switch (kind) {
            case "seed":
                return random.nextInt(65536);
            case "shares":
                return 1 + random.nextInt(6);
            case "threshold":
                return 1 + random.nextInt(Math.max(1, Math.min(6, (Integer) ahead)));
            case "share":
                return 1 + random.nextInt(6);
            case "value":
                return random.nextInt(8) == 0 ? random.nextInt(257) : shareOrNothing((Integer) ahead);
            case "bound":
                return 1 + random.nextInt(random.nextBoolean() ? 4 : 30);
            case "key":
                return Math.max(1, model.key() - random.nextInt(4));
            case "few":
                return 1 + random.nextInt(random.nextBoolean() ? 3 : 50);
            case "engine":
                return random.nextInt(4) - 1;
            case "ofEngine":
                return (Integer) ahead == SealwrightVault.CREDENTIALS || random.nextInt(4) == 0 ? random.nextInt(3) : 0;
            case "approve":
                return random.nextInt(4) == 0 ? 1 + random.nextInt(2) : 0;
            case "system":
            case "sink":
            case "how":
            case "kind":
            case "what":
            case "state":
                return random.nextInt(3);
            case "quota":
                return random.nextInt(3) == 0 ? random.nextInt(10) : 100;
            default:
                return drawnOfMany(kind, ahead);
        }
    }

    private int drawnOfMany(String kind, Object ahead) {
        switch (kind) {
            case "first":
                return random.nextInt(4);
            case "secondOrNone":
                return random.nextInt(3) - 1;
            case "policy":
            case "person":
                return random.nextInt(8);
            case "personOrNone":
                return random.nextInt(9) - 1;
            case "part":
                return random.nextInt(3) == 0 ? random.nextInt(3) : 6 + random.nextInt(3);
            case "powers":
                return random.nextInt(6) == 0 ? 0 : 1 + random.nextInt(15);
            case "who":
                return random.nextInt((Integer) ahead == 0 ? 3 : (Integer) ahead == 1 ? 8 : 4);
            case "set":
                return random.nextInt(3) == 0 ? random.nextInt(256) : random.nextInt(4);
            case "method":
                return random.nextInt(2);
            case "name":
                return random.nextInt(6);
            case "group":
                return random.nextInt(4);
            case "member":
                return random.nextInt((Boolean) ahead ? 4 : 8);
            case "place":
                return random.nextInt(4);
            case "places":
                return random.nextInt(3) == 0 ? 1 + random.nextInt(15) : 15;
            case "version":
                return random.nextInt(3) == 0 ? 0 : random.nextInt(8);
            default:
                return drawnByMade(kind, ahead);
        }
    }

    private int drawnByMade(String kind, Object ahead) {
        switch (kind) {
            case "number":
                return random.nextInt(4) == 0 ? 0 : random.nextInt(10000);
            case "expected":
                return random.nextInt(3) == 0 ? random.nextInt(6) : -1;
            case "hours":
            case "long":
                return 1 + random.nextInt(random.nextBoolean() ? 8 : 50);
            case "most":
                return Math.max(1, (Integer) ahead) + random.nextInt(30);
            case "uses":
                return random.nextInt(3) == 0 ? 1 + random.nextInt(4) : -1;
            case "salt":
                return 1 + random.nextInt(1000);
            case "time":
                return 1 + random.nextInt(random.nextInt(8) == 0 ? 20 : random.nextInt(4) == 0 ? 6 : 2);
            case "token":
                return one("token");
            case "tokenOrNone":
                return random.nextInt(4) == 0 ? -1 : one("token");
            default:
                return one(kind);
        }
    }

    /** One of those that were made, mostly a late one, and a token that lives. */
    private int one(String kind) {
        int count = made.getOrDefault(kind, 0);
        int one = 0;
        for (int i = 0; i < 6 && count > 0; i++) {
            one = random.nextBoolean() ? random.nextInt(count) : count - 1 - random.nextInt(Math.min(count, 3));
            if (!kind.equals("token") || model.lives(one)) {
                break;
            }
        }
        return one;
    }

    private int shareOrNothing(int share) {
        try {
            return model.share(share);
        } catch (IndexOutOfBoundsException e) {
            return 0;
        }
    }

    private String both(String name, Object... arguments) {
        String ofVault = answer(vault, name, arguments);
        String ofModel = answer(model, name, arguments);
        told.add(name + Arrays.toString(arguments) + " " + ofVault);
        if (!ofVault.equals(ofModel)) {
            told.add("but the document, as the model tells it, asks for " + ofModel);
            isRight = false;
        }
        count(name, ofModel, arguments);
        return ofModel;
    }

    private void count(String name, String answer, Object[] arguments) {
        String kind = MAKING.get(name);
        if (kind != null && answer.matches("\\d+")) {
            made.merge(kind, 1, Integer::sum);
        }
        if (made.getOrDefault("case", 0) < model.cases()) {
            made.put("case", model.cases());
            askers.add((Integer) arguments[0]);
        }
    }

    private static String answer(Object object, String name, Object... arguments) {
        try {
            return String.valueOf(method(object.getClass(), name, arguments.length).invoke(object, arguments));
        } catch (InvocationTargetException e) {
            return "throws " + e.getCause().getClass().getSimpleName();
        } catch (IllegalAccessException e) {
            throw new IllegalStateException(e);
        }
    }

    private static final Map<String, Method> METHODS = new HashMap<>();

    private static Method method(Class<?> type, String name, int count) {
        return METHODS.computeIfAbsent(type.getName() + " " + name, key -> find(type, name, count));
    }

    private static Method find(Class<?> type, String name, int count) {
        for (Method method : type.getDeclaredMethods()) {
            boolean isPrivate = Modifier.isPrivate(method.getModifiers());
            if (method.getName().equals(name) && method.getParameterCount() == count && !isPrivate) {
                return method;
            }
        }
        throw new IllegalStateException("no method " + name);
    }
}
