import java.math.BigInteger;
import java.util.ArrayList;
import java.util.HashSet;
import java.util.List;
import java.util.Set;
import java.util.TreeMap;

/**
 * The document told once more, from its words and with all of the Java library, in another shape than the class: it
 * keeps objects and histories where the class keeps rows, and works out at each call what the class carries along. So
 * a slip in one of them is not likely to stand in the other one too. ModelTest holds the class against it.
 */
final class Model {
    private static final int NONE = -1;
    private static final int SEALED = -2, BLOCKED = -3, BAD_TOKEN = -4, TOO_MANY = -5, DENIED = -6, NOT_THERE = -7, UNEXPECTED = -8,
        UNREADABLE = -9, PENDING = -10, FULL = -11, NO_ANSWER = -12, WRONG_ENGINE = -13;
    private static final int VALUES = 0, CREDENTIALS = 1, CERTIFICATES = 2;
    private static final int THERE = 0, DESTROYED = 2;
    private static final int READ = 1, WRITE = 2, ERASE = 4, ISSUE = 8;
    private static final int ANY = 6, SELF = 7, REST = 8;
    private static final int SERVICE = 0, BATCH = 1, PERIODIC = 2;
    private static final int LIVE = 0, ENDING = 1, ENDED = 2, STUCK = 3;
    private static final int WORKS = 0, REFUSES = 1, LOSING = 2;

    private static final class Dealing {
        long[] coefficients;
        int shares;
        int seed;
        int threshold;
        final TreeMap<Integer, Integer> given = new TreeMap<>();

        Dealing(int seed, int shares, int threshold) {
            this.seed = seed;
            this.shares = shares;
            this.threshold = threshold;
        }
    }

    private static final class Key {
        int uses;
        final int madeAt;

        Key(int madeAt) {
            this.madeAt = madeAt;
        }
    }

    private static final class Engine {
        final int kind;
        final int system;

        Engine(int kind, int system) {
            this.kind = kind;
            this.system = system;
        }
    }

    private static final class Version {
        int number;
        int key;
        int state = THERE;
    }

    private static final class Rule {
        final int[] parts;
        final int powers;
        final int approve;

        Rule(int[] parts, int powers, int approve) {
            this.parts = parts;
            this.powers = powers;
            this.approve = approve;
        }
    }

    private static final class Token {
        Token parent;
        int kind;
        int person = NONE;
        int policies;
        int end;
        int latest;
        int period;
        int uses = NONE;
        Set<Integer> places = new HashSet<>();
        boolean isOrphan;
        boolean isDead;
    }

    private static final class Lease {
        Token token;
        int path;
        int system;
        Object credential;
        int end;
        int latest;
        int state = LIVE;
        int tries;
    }

    private static final class Entry {
        int path;
        int number;
        int key;
        int version;
        int state;
        boolean isErasing;
    }

    private static final class Wrap {
        int number;
        int madeAt;
        boolean isOpened;
    }

    private static final class Case {
        Token asker;
        int path;
        int version;
        int needed;
        final Set<Integer> approvers = new HashSet<>();
        boolean isOver;
    }

    private static final class Certificate {
        int path;
        int end;
        Certificate issuer;
        boolean isRevoked;
    }

    private static final class Sink {
        boolean isOn;
        boolean blocks;
        int salt;
        long hash;
    }

    private int hour;
    private boolean isOpen;
    private Integer rootKey;
    private Dealing dealt;
    private Dealing begun;
    private final List<Key> keys = new ArrayList<>();
    private int leastKey = 1;
    private int usesBound = 1000;
    private int ageBound = 1000;
    private final Engine[] engines = new Engine[6];
    private final int[] quotas = {100, 100, 100, 100, 100, 100};
    private final List<int[]> requests = new ArrayList<>();
    private final List<List<Rule>> policies = new ArrayList<>();
    private final int[][] policiesOf = {new int[3], new int[8], new int[4]};
    private final TreeMap<Integer, Integer> logins = new TreeMap<>();
    private final Set<String> members = new HashSet<>();
    private final List<Token> tokens = new ArrayList<>();
    private final List<List<Version>> values = new ArrayList<>();
    private final int[] systems = new int[3];
    private final List<Set<Object>> credentials = List.of(new HashSet<>(), new HashSet<>(), new HashSet<>());
    private final List<Set<Object>> records = List.of(new HashSet<>(), new HashSet<>(), new HashSet<>());
    private final List<Lease> leases = new ArrayList<>();
    private final List<Wrap> wraps = new ArrayList<>();
    private final List<Case> cases = new ArrayList<>();
    private final List<Certificate> certificates = new ArrayList<>();
    private Set<Certificate> published = new HashSet<>();
    private final Sink[] sinks = {new Sink(), new Sink(), new Sink()};
    private final List<Entry> toShip = new ArrayList<>();
    private final List<Entry> shipped = new ArrayList<>();

    Model() {
        keys.add(new Key(0));
        for (int policy = 0; policy < 8; policy++) {
            policies.add(new ArrayList<>());
        }
        for (int path = 0; path < 216; path++) {
            values.add(new ArrayList<>());
        }
    }

    private static void index(int value, int least, int most) {
        if (value < least || value > most) {
            throw new IndexOutOfBoundsException();
        }
    }

    private static void range(int value, int least, int most) {
        if (value < least || value > most) {
            throw new IllegalArgumentException();
        }
    }

    private static void state(boolean isRight) {
        if (!isRight) {
            throw new IllegalStateException();
        }
    }

    // ---- the seal

    void deal(int seed, int shares, int threshold) {
        rangesOfDealing(seed, shares, threshold);
        state(dealt == null);
        dealt = new Dealing(seed, shares, threshold);
        draw(dealt);
    }

    private static void rangesOfDealing(int seed, int shares, int threshold) {
        range(seed, 0, 65535);
        range(shares, 1, 6);
        range(threshold, 1, shares);
    }

    private void draw(Dealing dealing) {
        long x = dealing.seed;
        dealing.coefficients = new long[dealing.threshold];
        for (int i = 0; i < dealing.threshold; i++) {
            if (i == 0 && rootKey != null) {
                dealing.coefficients[0] = rootKey;
                continue;
            }
            x = Math.floorMod(1103L * x + 12345L, 65536L);
            dealing.coefficients[i] = x % 257;
        }
        rootKey = (int) dealing.coefficients[0];
    }

    int share(int share) {
        isShare(share);
        long value = 0;
        for (int i = dealt.threshold - 1; i >= 0; i--) {
            value = value * share + dealt.coefficients[i];
        }
        return (int) (value % 257);
    }

    private void isShare(int share) {
        index(share, 1, dealt == null ? 0 : dealt.shares);
    }

    int give(int share, int value) {
        isShare(share);
        range(value, 0, 256);
        state(!isOpen);
        dealt.given.put(share, value);
        if (dealt.given.size() < dealt.threshold) {
            return dealt.given.size();
        }
        isOpen = atZero(dealt.given) == rootKey;
        dealt.given.clear();
        return 0;
    }

    /** Solves for the coefficients, by taking one unknown after another away, and tells the one of the degree 0. */
    private static int atZero(TreeMap<Integer, Integer> points) {
        int n = points.size();
        long[][] rows = new long[n][n + 1];
        int next = 0;
        for (int at : points.keySet()) {
            long power = 1;
            for (int degree = 0; degree < n; degree++) {
                rows[next][degree] = power;
                power = power * at % 257;
            }
            rows[next][n] = points.get(at);
            next++;
        }
        for (int column = n - 1; column >= 0; column--) {
            int pivot = column;
            while (rows[pivot][column] == 0) {
                pivot--;
            }
            long[] row = rows[pivot];
            rows[pivot] = rows[column];
            rows[column] = row;
            long inverse = BigInteger.valueOf(row[column]).modInverse(BigInteger.valueOf(257)).longValue();
            for (int i = 0; i <= n; i++) {
                row[i] = row[i] * inverse % 257;
            }
            for (int other = 0; other < column; other++) {
                long times = rows[other][column];
                for (int i = 0; i <= n; i++) {
                    rows[other][i] = Math.floorMod(rows[other][i] - times * row[i], 257L);
                }
            }
        }
        return (int) rows[0][n];
    }

    boolean seal() {
        boolean was = isOpen;
        isOpen = false;
        begun = null;
        if (dealt != null) {
            dealt.given.clear();
        }
        return was;
    }

    boolean isOpen() {
        return isOpen;
    }

    void dealAnew(int seed, int shares, int threshold) {
        rangesOfDealing(seed, shares, threshold);
        state(isOpen);
        begun = new Dealing(seed, shares, threshold);
    }

    int giveAnew(int share, int value) {
        isShare(share);
        range(value, 0, 256);
        state(begun != null);
        begun.given.put(share, value);
        if (begun.given.size() < dealt.threshold) {
            return begun.given.size();
        }
        if (atZero(begun.given) == rootKey) {
            begun.given.clear();
            dealt = begun;
            draw(dealt);
        }
        begun = null;
        return 0;
    }

    // ---- the keyring

    void setBounds(int uses, int age) {
        range(uses, 1, 1000);
        range(age, 1, 1000);
        usesBound = uses;
        ageBound = age;
    }

    int turn() {
        keys.add(new Key(hour));
        return keys.size();
    }

    int retire(int key) {
        range(key, 1, keys.size());
        range(key, leastKey, keys.size());
        int before = leastKey;
        leastKey = key;
        return before;
    }

    private int keep() {
        Key last = keys.get(keys.size() - 1);
        if (last.uses >= usesBound || hour >= last.madeAt + ageBound) {
            turn();
        }
        keys.get(keys.size() - 1).uses++;
        return keys.size();
    }

    int rewrap(int most) {
        range(most, 1, 50);
        state(isOpen);
        List<Version> due = new ArrayList<>();
        for (List<Version> versions : values) {
            for (Version version : kept(versions)) {
                if (version.state != DESTROYED && version.key < keys.size() && version.key >= leastKey) {
                    due.add(version);
                }
            }
        }
        List<Version> done = due.subList(0, Math.min(most, due.size()));
        for (Version version : done) {
            version.key = keep();
        }
        return done.size();
    }

    private static List<Version> kept(List<Version> versions) {
        return versions.subList(Math.max(0, versions.size() - 4), versions.size());
    }

    int key() {
        return keys.size();
    }

    // ---- engines

    void mount(int first, int engine, int system) {
        range(first, 0, 5);
        range(engine, NONE, CERTIFICATES);
        range(system, 0, engine == CREDENTIALS ? 2 : 0);
        if (engine != NONE) {
            state(engines[first] == null);
            engines[first] = new Engine(engine, system);
            return;
        }
        state(engines[first] != null);
        engines[first] = null;
        for (int path = 36 * first; path < 36 * first + 36; path++) {
            values.get(path).clear();
        }
        toShip.removeIf(entry -> entry.path / 36 == first);
        shipped.removeIf(entry -> entry.path / 36 == first);
        for (Lease lease : leases) {
            if (lease.path / 36 == first && lease.state == LIVE) {
                end(lease);
            }
        }
        for (Case each : cases) {
            each.isOver |= each.path / 36 == first;
        }
    }

    private boolean isMounted(int path, int kind) {
        Engine engine = engines[path / 36];
        return engine != null && engine.kind == kind;
    }

    int setQuota(int first, int quota) {
        range(first, 0, 5);
        range(quota, 0, 100);
        int before = quotas[first];
        quotas[first] = quota;
        return before;
    }

    // ---- policies and people

    int rule(int policy, int one, int two, int three, int powers, int approve) {
        index(policy, 0, 7);
        range(one, 0, 8);
        range(two, 0, 8);
        range(three, 0, 8);
        range(powers, 0, 15);
        range(approve, 0, 2);
        state(policies.get(policy).size() < 5);
        policies.get(policy).add(new Rule(new int[] {one, two, three}, powers, approve));
        return policies.get(policy).size();
    }

    int clear(int policy) {
        index(policy, 0, 7);
        int before = policies.get(policy).size();
        policies.get(policy).clear();
        return before;
    }

    int setPolicies(int what, int who, int set) {
        if (what >= 0 && what <= 2) {
            index(who, 0, policiesOf[what].length - 1);
        }
        range(what, 0, 2);
        range(set, 0, 255);
        int before = policiesOf[what][who];
        policiesOf[what][who] = set;
        return before;
    }

    int alias(int method, int name, int person) {
        index(method, 0, 2);
        index(name, 0, 5);
        index(person, NONE, 7);
        Integer before = person == NONE ? logins.remove(10 * method + name) : logins.put(10 * method + name, person);
        return before == null ? NONE : before;
    }

    int merge(int person, int into) {
        index(person, 0, 7);
        index(into, 0, 7);
        if (person == into) {
            throw new IllegalArgumentException();
        }
        int led = 0;
        for (int login : logins.keySet()) {
            if (logins.get(login) == person) {
                logins.put(login, into);
                led++;
            }
        }
        for (Token token : tokens) {
            token.person = token.person == person ? into : token.person;
        }
        for (int group = 0; group < 4; group++) {
            if (members.remove("person " + person + " in " + group)) {
                members.add("person " + into + " in " + group);
            }
        }
        return led;
    }

    boolean member(int group, boolean isGroup, int member, boolean is) {
        index(group, 0, 3);
        index(member, 0, isGroup ? 3 : 7);
        String membership = (isGroup ? "group " : "person ") + member + " in " + group;
        return is ? !members.add(membership) : members.remove(membership);
    }

    private void gatherGroups(String member, Set<Integer> into) {
        for (int group = 0; group < 4; group++) {
            if (members.contains(member + " in " + group) && into.add(group)) {
                gatherGroups("group " + group, into);
            }
        }
    }

    private static boolean isIn(int set, int number) {
        return (set & 1 << number) != 0;
    }

    private List<Rule> rulesOf(Token token) {
        int set = token.policies;
        if (token.person != NONE) {
            set |= policiesOf[1][token.person];
            Set<Integer> groups = new HashSet<>();
            gatherGroups("person " + token.person, groups);
            for (int group : groups) {
                set |= policiesOf[2][group];
            }
        }
        List<Rule> rules = new ArrayList<>();
        for (int policy = 0; policy < 8; policy++) {
            if (isIn(set, policy)) {
                rules.addAll(policies.get(policy));
            }
        }
        return rules;
    }

    private static boolean fits(Rule rule, int person, int path) {
        int[] segments = {path / 36, path % 36 / 6, path % 6};
        for (int i = 0; i < 3; i++) {
            int part = rule.parts[i];
            if (part == REST) {
                return true;
            }
            if (part == SELF && (person == NONE || person % 6 != segments[i])) {
                return false;
            }
            if (part < ANY && part != segments[i]) {
                return false;
            }
        }
        return true;
    }

    /** Below 0 if the first one is more exact, 0 if they are alike, for two that fit the same path. */
    private static int compare(Rule one, Rule other) {
        for (int i = 0; i < 3; i++) {
            int rank = rank(one.parts[i]) - rank(other.parts[i]);
            if (rank != 0) {
                return rank;
            }
            if (one.parts[i] == REST) {
                return 0;
            }
        }
        return 0;
    }

    private static int rank(int part) {
        return part < ANY ? 0 : part == SELF ? 1 : part == ANY ? 2 : 3;
    }

    private int may(Token token, int path) {
        List<Rule> fitting = new ArrayList<>();
        for (Rule rule : rulesOf(token)) {
            if (fits(rule, token.person, path)) {
                fitting.add(rule);
            }
        }
        int powers = 0;
        int approve = 0;
        for (Rule rule : fitting) {
            if (fitting.stream().anyMatch(other -> compare(other, rule) < 0)) {
                continue;
            }
            if (rule.powers == 0) {
                return 0;
            }
            powers |= rule.powers;
            approve = Math.max(approve, rule.approve);
        }
        return powers + 16 * approve;
    }

    // ---- tokens

    int login(int method, int name) {
        index(method, 0, 2);
        index(name, 0, 5);
        if (!isOpen) {
            return SEALED;
        }
        if (!logins.containsKey(10 * method + name)) {
            return DENIED;
        }
        if (tokens.size() == 40) {
            return FULL;
        }
        Token token = new Token();
        token.kind = SERVICE;
        token.person = logins.get(10 * method + name);
        token.policies = policiesOf[0][method];
        token.end = hour + 24;
        token.latest = hour + 72;
        token.places.addAll(List.of(0, 1, 2, 3));
        tokens.add(token);
        return tokens.size() - 1;
    }

    int token(int parent, int kind, int set, int hours, int most, int uses, int places, boolean isOrphan) {
        range(kind, SERVICE, PERIODIC);
        range(set, 0, 255);
        range(hours, 1, 100);
        range(most, hours, 200);
        if (uses != NONE) {
            range(uses, 1, 20);
        }
        range(places, 1, 15);
        if (!isOpen) {
            return SEALED;
        }
        Token above = parent == NONE ? null : tokenOrNull(parent);
        if (parent != NONE && (above == null || above.isDead || above.kind == BATCH)) {
            return BAD_TOKEN;
        }
        for (int policy = 0; policy < 8; policy++) {
            if (above != null && isIn(set, policy) && !isIn(above.policies, policy)) {
                return DENIED;
            }
        }
        if (tokens.size() == 40) {
            return FULL;
        }
        Token token = new Token();
        token.parent = above;
        token.kind = kind;
        token.person = above == null ? NONE : above.person;
        token.policies = set;
        token.end = hour + hours;
        token.period = hours;
        token.latest = kind == PERIODIC ? Integer.MAX_VALUE : hour + most;
        token.uses = uses;
        token.isOrphan = isOrphan;
        for (int place = 0; place < 4; place++) {
            if (isIn(places, place)) {
                token.places.add(place);
            }
        }
        tokens.add(token);
        return tokens.size() - 1;
    }

    private Token tokenOrNull(int token) {
        return token >= 0 && token < tokens.size() ? tokens.get(token) : null;
    }

    private Token tokenAt(int token) {
        index(token, 0, tokens.size() - 1);
        return tokens.get(token);
    }

    int renewToken(int number, int hours) {
        Token token = tokenAt(number);
        range(hours, 1, 100);
        if (!isOpen) {
            return SEALED;
        }
        if (token.isDead || token.kind == BATCH) {
            return BAD_TOKEN;
        }
        int wanted = token.kind == PERIODIC ? token.period : hours;
        token.end = Math.min(hour + wanted, token.latest);
        return token.end;
    }

    int revokeToken(int number) {
        return die(tokenAt(number));
    }

    private int die(Token token) {
        if (token.isDead) {
            return 0;
        }
        token.isDead = true;
        int died = 1;
        for (Token child : tokens) {
            if (child.parent == token && !child.isOrphan) {
                died += die(child);
            }
        }
        for (Lease lease : leases) {
            if (lease.token == token && lease.state == LIVE) {
                end(lease);
            }
        }
        return died;
    }

    int uses(int token) {
        return tokenAt(token).uses;
    }

    boolean lives(int token) {
        return !tokenAt(token).isDead;
    }

    int may(int token, int path) {
        tokenAt(token);
        range(path, 0, 215);
        return may(tokenAt(token), path);
    }

    // ---- requests

    private interface Request {
        int answer(Token token);
    }

    private int request(int number, int place, int path, int power, Request request) {
        if (!isOpen) {
            return SEALED;
        }
        List<Sink> on = new ArrayList<>();
        List<Sink> taking = new ArrayList<>();
        for (Sink sink : sinks) {
            if (sink.isOn) {
                on.add(sink);
            }
            if (sink.isOn && !sink.blocks) {
                taking.add(sink);
            }
        }
        if (!on.isEmpty() && taking.isEmpty()) {
            return BLOCKED;
        }
        Token token = tokenOrNull(number);
        int answer = answer(token, place, path, power, request);
        long a = answer < 0 ? 60000 + answer : answer;
        long asked = List.of(READ, WRITE, ERASE, ISSUE).indexOf(power);
        for (Sink sink : taking) {
            sink.hash = (31 * sink.hash + 7L * (token == null ? 0 : number) + path + 1000 * asked + a * sink.salt) % 65521;
        }
        if (token != null && token.uses == 0) {
            die(token);
        }
        return answer;
    }

    private int answer(Token token, int place, int path, int power, Request request) {
        if (token == null || token.isDead || !token.places.contains(place)) {
            return BAD_TOKEN;
        }
        if (token.uses != NONE) {
            token.uses--;
        }
        long came = requests.stream().filter(each -> each[0] == hour && each[1] == path / 36).count();
        if (came >= quotas[path / 36]) {
            return TOO_MANY;
        }
        requests.add(new int[] {hour, path / 36});
        return (may(token, path) & power) == 0 ? DENIED : request.answer(token);
    }

    // ---- values

    private static void rangesOfRequest(int place, int path) {
        range(place, 0, 3);
        range(path, 0, 215);
    }

    private Version versionAt(int path, int number) {
        List<Version> versions = values.get(path);
        int wanted = number == 0 ? versions.size() : number;
        if (wanted < 1 || wanted > versions.size()) {
            return null;
        }
        Version version = versions.get(wanted - 1);
        return kept(versions).contains(version) ? version : null;
    }

    private int valueAt(int path, int number) {
        if (!isMounted(path, VALUES)) {
            return WRONG_ENGINE;
        }
        Version version = versionAt(path, number);
        if (version == null || version.state != THERE) {
            return NOT_THERE;
        }
        return version.key < leastKey ? UNREADABLE : version.number;
    }

    private int readAsToken(Token token, int path, int version) {
        int value = valueAt(path, version);
        int needed = may(token, path) / 16;
        if (value < 0 || needed == 0) {
            return value;
        }
        if (cases.size() == 20) {
            return FULL;
        }
        Case opened = new Case();
        opened.asker = token;
        opened.path = path;
        opened.version = version;
        opened.needed = needed;
        cases.add(opened);
        return PENDING;
    }

    int read(int token, int place, int path, int version) {
        rangesOfRequest(place, path);
        range(version, 0, 9999);
        return request(token, place, path, READ, by -> readAsToken(by, path, version));
    }

    int write(int token, int place, int path, int value, int expected) {
        rangesOfRequest(place, path);
        range(value, 0, 9999);
        range(expected, NONE, 9999);
        return request(token, place, path, WRITE, by -> {
            if (!isMounted(path, VALUES)) {
                return WRONG_ENGINE;
            }
            if (expected != NONE && expected != values.get(path).size()) {
                return UNEXPECTED;
            }
            Version version = new Version();
            version.number = value;
            version.key = keep();
            values.get(path).add(version);
            Entry entry = new Entry();
            entry.path = path;
            entry.number = value;
            entry.key = version.key;
            toShip.add(entry);
            return values.get(path).size();
        });
    }

    int erase(int token, int place, int path, int number, int state) {
        rangesOfRequest(place, path);
        range(number, 0, 9999);
        range(state, THERE, DESTROYED);
        return request(token, place, path, ERASE, by -> {
            if (!isMounted(path, VALUES)) {
                return WRONG_ENGINE;
            }
            Version version = versionAt(path, number);
            if (version == null || version.state == DESTROYED) {
                return NOT_THERE;
            }
            Entry entry = new Entry();
            entry.path = path;
            entry.isErasing = true;
            entry.version = values.get(path).indexOf(version) + 1;
            entry.state = state;
            toShip.add(entry);
            int before = version.state;
            version.state = state;
            return before;
        });
    }

    int keyOf(int path, int number) {
        range(path, 0, 215);
        range(number, 0, 9999);
        Version version = versionAt(path, number);
        return version == null || version.state == DESTROYED ? NONE : version.key;
    }

    // ---- credentials and leases

    int setSystem(int system, int how) {
        index(system, 0, 2);
        range(how, WORKS, LOSING);
        int before = systems[system];
        systems[system] = how;
        return before;
    }

    int issue(int token, int place, int path, int hours, int most) {
        rangesOfRequest(place, path);
        range(hours, 1, 50);
        range(most, hours, 100);
        return request(token, place, path, ISSUE, by -> {
            if (!isMounted(path, CREDENTIALS)) {
                return WRONG_ENGINE;
            }
            if (leases.size() == 40) {
                return FULL;
            }
            int system = engines[path / 36].system;
            if (systems[system] == REFUSES) {
                return NO_ANSWER;
            }
            Object credential = new Object();
            credentials.get(system).add(credential);
            if (systems[system] == LOSING) {
                records.get(system).add(credential);
                return NO_ANSWER;
            }
            Lease lease = new Lease();
            lease.token = by;
            lease.path = path;
            lease.system = system;
            lease.credential = credential;
            lease.end = Math.min(hour + hours, by.end);
            lease.latest = hour + most;
            leases.add(lease);
            return leases.size() - 1;
        });
    }

    private Lease leaseAt(int lease) {
        index(lease, 0, leases.size() - 1);
        return leases.get(lease);
    }

    private void end(Lease lease) {
        lease.end = hour;
        tryToRemove(lease);
    }

    private void tryToRemove(Lease lease) {
        lease.tries++;
        if (systems[lease.system] == REFUSES) {
            lease.state = lease.tries == 3 ? STUCK : ENDING;
            return;
        }
        lease.state = ENDED;
        credentials.get(lease.system).remove(lease.credential);
    }

    int renew(int number, int hours) {
        Lease lease = leaseAt(number);
        range(hours, 1, 50);
        if (!isOpen) {
            return SEALED;
        }
        if (lease.state != LIVE) {
            return NOT_THERE;
        }
        lease.end = Math.min(Math.min(hour + hours, lease.latest), lease.token.end);
        return lease.end;
    }

    int revoke(int first, int second) {
        range(first, 0, 5);
        range(second, NONE, 5);
        int ended = 0;
        for (Lease lease : leases) {
            boolean beginsSo = lease.path / 36 == first && (second == NONE || lease.path / 6 % 6 == second);
            if (beginsSo && lease.state == LIVE) {
                end(lease);
                ended++;
            }
        }
        return ended;
    }

    int stateOf(int lease) {
        return leaseAt(lease).state;
    }

    int endOf(int lease) {
        return leaseAt(lease).end;
    }

    int credentials(int system) {
        index(system, 0, 2);
        return credentials.get(system).size();
    }

    int credentialsAnew(int system) {
        index(system, 0, 2);
        long count = leases.stream().filter(lease -> lease.system == system && List.of(LIVE, ENDING, STUCK).contains(lease.state)).count();
        return (int) count + records.get(system).size();
    }

    // ---- wraps and cases

    int wrap(int token, int place, int path, int version) {
        rangesOfRequest(place, path);
        range(version, 0, 9999);
        return request(token, place, path, READ, by -> {
            int number = readAsToken(by, path, version);
            if (number < 0) {
                return number;
            }
            if (wraps.size() == 20) {
                return FULL;
            }
            Wrap wrap = new Wrap();
            wrap.number = number;
            wrap.madeAt = hour;
            wraps.add(wrap);
            return wraps.size() - 1;
        });
    }

    int open(int number) {
        index(number, 0, wraps.size() - 1);
        if (!isOpen) {
            return SEALED;
        }
        Wrap wrap = wraps.get(number);
        if (wrap.isOpened || hour > wrap.madeAt + 5) {
            return NOT_THERE;
        }
        wrap.isOpened = true;
        return wrap.number;
    }

    int approve(int token, int place, int which) {
        index(which, 0, cases.size() - 1);
        range(place, 0, 3);
        Case asked = cases.get(which);
        return request(token, place, asked.path, ISSUE, by -> {
            if (asked.isOver) {
                return NOT_THERE;
            }
            if (by.person == NONE || by.person == asked.asker.person || by == asked.asker) {
                return BAD_TOKEN;
            }
            asked.approvers.add(by.person);
            return asked.approvers.size();
        });
    }

    int takeUp(int token, int place, int which) {
        index(which, 0, cases.size() - 1);
        range(place, 0, 3);
        Case asked = cases.get(which);
        return request(token, place, asked.path, READ, by -> {
            if (asked.isOver) {
                return NOT_THERE;
            }
            if (by != asked.asker) {
                return BAD_TOKEN;
            }
            if (asked.approvers.size() < asked.needed) {
                return PENDING;
            }
            int value = valueAt(asked.path, asked.version);
            asked.isOver = value >= 0;
            return value;
        });
    }

    int cases() {
        return cases.size();
    }

    // ---- certificates

    int certify(int token, int place, int path, int hours) {
        rangesOfRequest(place, path);
        range(hours, 1, 200);
        return request(token, place, path, ISSUE, by -> {
            if (!isMounted(path, CERTIFICATES)) {
                return WRONG_ENGINE;
            }
            if (certificates.size() == 30) {
                return FULL;
            }
            Certificate made = new Certificate();
            made.path = path;
            made.issuer = made;
            made.end = hour + hours;
            for (Certificate other : certificates) {
                if (path % 6 != 0 && other.path == path / 6 * 6) {
                    made.issuer = other;
                }
            }
            if (made.issuer != made && !isGood(made.issuer)) {
                return NOT_THERE;
            }
            made.end = Math.min(made.end, made.issuer.end);
            certificates.add(made);
            return certificates.size() - 1;
        });
    }

    private Certificate certificateAt(int certificate) {
        index(certificate, 0, certificates.size() - 1);
        return certificates.get(certificate);
    }

    private boolean isGood(Certificate certificate) {
        boolean isItself = hour < certificate.end && !published.contains(certificate);
        return isItself && (certificate.issuer == certificate || isGood(certificate.issuer));
    }

    boolean revokeCertificate(int number) {
        Certificate certificate = certificateAt(number);
        boolean was = certificate.isRevoked;
        certificate.isRevoked = true;
        return !was;
    }

    int publish() {
        published = new HashSet<>();
        for (Certificate certificate : certificates) {
            if (certificate.isRevoked && hour < certificate.end) {
                published.add(certificate);
            }
        }
        return published.size();
    }

    boolean isGood(int certificate) {
        return isGood(certificateAt(certificate));
    }

    int issuerOf(int certificate) {
        return certificates.indexOf(certificateAt(certificate).issuer);
    }

    // ---- sinks, the far site, hours

    boolean setSink(int number, boolean isOn, boolean blocks, int salt) {
        index(number, 0, 2);
        range(salt, 1, 1000);
        Sink sink = sinks[number];
        boolean was = sink.isOn;
        sink.isOn = isOn;
        sink.blocks = blocks;
        sink.salt = salt;
        return was;
    }

    int hash(int sink) {
        index(sink, 0, 2);
        return (int) sinks[sink].hash;
    }

    int ship(int most) {
        range(most, 1, 100);
        List<Entry> next = toShip.subList(0, Math.min(most, toShip.size()));
        shipped.addAll(next);
        next.clear();
        return toShip.size();
    }

    int farRead(int number, int path, int version) {
        range(path, 0, 215);
        range(version, 0, 9999);
        Token token = tokenOrNull(number);
        if (token == null || token.isDead) {
            return BAD_TOKEN;
        }
        int rights = may(token, path);
        if ((rights & READ) == 0) {
            return DENIED;
        }
        return rights >= 16 ? PENDING : shippedAt(path, version);
    }

    /** What the entries that were shipped tell, from the first one on. */
    private int shippedAt(int path, int wanted) {
        List<Version> versions = new ArrayList<>();
        for (Entry entry : shipped) {
            if (entry.path != path) {
                continue;
            }
            if (entry.isErasing) {
                versions.get(entry.version - 1).state = entry.state;
                continue;
            }
            Version version = new Version();
            version.number = entry.number;
            version.key = entry.key;
            versions.add(version);
        }
        int last = versions.size();
        int number = wanted == 0 ? last : wanted;
        if (number < 1 || number > last || number < last - 3 || versions.get(number - 1).state != THERE) {
            return NOT_THERE;
        }
        Version version = versions.get(number - 1);
        return version.key < leastKey ? UNREADABLE : version.number;
    }

    int pass(int hours) {
        range(hours, 1, 50);
        for (int i = 0; i < hours; i++) {
            hour++;
            beginHour();
        }
        return hour;
    }

    private void beginHour() {
        for (Token token : tokens) {
            if (token.end == hour) {
                die(token);
            }
        }
        List<Lease> ending = new ArrayList<>(leases);
        ending.removeIf(lease -> lease.state != ENDING || lease.end == hour);
        for (Lease lease : leases) {
            if (lease.state == LIVE && lease.end == hour) {
                end(lease);
            }
        }
        for (Lease lease : ending) {
            tryToRemove(lease);
        }
        for (int system = 0; system < 3; system++) {
            if (systems[system] == WORKS) {
                credentials.get(system).removeAll(records.get(system));
                records.get(system).clear();
            }
        }
    }
}
