/**
 * A secrets platform: a seal, a keyring, mounted engines, leases under tokens, policies, people, wraps,
 * approvals, certificates, audits and a far site. ../shared/DOC.md says what each call promises.
 *
 * All rows are made by the constructors and used again: no call makes an object, so that a long run of
 * calls needs no more room than the new object did.
 */
public final class SealwrightVault {
    public static final int NONE = -1;
    public static final int SEALED = -2, BLOCKED = -3, BAD_TOKEN = -4, TOO_MANY = -5, DENIED = -6, NOT_THERE = -7, UNEXPECTED = -8, UNREADABLE = -9, PENDING = -10, FULL = -11, NO_ANSWER = -12, WRONG_ENGINE = -13;
    public static final int VALUES = 0, CREDENTIALS = 1, CERTIFICATES = 2;
    public static final int THERE = 0, ERASED = 1, DESTROYED = 2;
    public static final int READ = 1, WRITE = 2, ERASE = 4, ISSUE = 8;
    public static final int ANY = 6, SELF = 7, REST = 8;
    public static final int SERVICE = 0, BATCH = 1, PERIODIC = 2;
    public static final int LIVE = 0, ENDING = 1, ENDED = 2, STUCK = 3;
    public static final int WORKS = 0, REFUSES = 1, LOSING = 2;

    private static final int SEGMENTS = 6;
    private static final int PATH_PARTS = 3;
    private static final int PATHS_OF_SECOND = 6;
    private static final int PATHS_OF_FIRST = 36;
    private static final int PATHS = 216;
    private static final int LAST_VERSION = 9999;
    private static final int LAST_NUMBER = 9999;

    private static final int POLICIES = 8;
    private static final int ALL_POLICIES = 255;
    private static final int ALL_POWERS = 15;
    private static final int MOST_APPROVALS = 2;
    private static final int APPROVALS_UNIT = 16;

    private static final int METHODS = 3;
    private static final int NAMES = 6;
    private static final int PEOPLE = 8;
    private static final int GROUPS = 4;
    private static final int PLACES = 4;
    private static final int ALL_PLACES = 15;
    private static final int SYSTEMS = 3;
    private static final int SINKS = 3;

    private static final int MOST_SHARES = 6;
    private static final int LAST_SEED = 65535;
    private static final int PRIME = 257;
    private static final int MOST_QUOTA = 100;
    private static final int MOST_SALT = 1000;
    private static final int LOGIN_HOURS = 24;
    private static final int LOGIN_MOST = 72;

    /** What admit() answers of a request that nothing refuses so far; all refusals are below it. */
    private static final int ADMITTED = 0;

    private final Seal seal = new Seal();
    private final Keyring keyring = new Keyring();
    private final Engines engines = new Engines();
    private final Rights rights = new Rights();
    private final Tokens tokens = new Tokens();
    private final Leases leases = new Leases();
    private final Store store = new Store();
    private final FarSite farSite = new FarSite();
    private final KeptReads keptReads = new KeptReads();
    private final Certificates certificates = new Certificates();
    private final Sinks sinks = new Sinks();
    private int hour;

    public SealwrightVault() {
    }

    // ---- the seal

    public void deal(int seed, int shares, int threshold) throws IllegalArgumentException, IllegalStateException {
        demandArgument(isDealing(seed, shares, threshold));
        demandState(!seal.isDealt());
        seal.dealShares(seed, shares, threshold);
    }

    public int share(int share) throws IndexOutOfBoundsException {
        demandIndex(seal.isShare(share));
        return seal.valueOf(share);
    }

    public int give(int share, int value) throws IndexOutOfBoundsException, IllegalArgumentException, IllegalStateException {
        demandIndex(seal.isShare(share));
        demandArgument(isWithin(value, 0, PRIME - 1));
        demandState(!seal.isOpened());
        return seal.takeForOpening(share, value);
    }

    public boolean seal() {
        return seal.close();
    }

    public boolean isOpen() {
        return seal.isOpened();
    }

    public void dealAnew(int seed, int shares, int threshold) throws IllegalArgumentException, IllegalStateException {
        demandArgument(isDealing(seed, shares, threshold));
        demandState(seal.isOpened());
        seal.beginDealing(seed, shares, threshold);
    }

    public int giveAnew(int share, int value) throws IndexOutOfBoundsException, IllegalArgumentException, IllegalStateException {
        demandIndex(seal.isShare(share));
        demandArgument(isWithin(value, 0, PRIME - 1));
        demandState(seal.isDealingBegun());
        return seal.takeForDealing(share, value);
    }

    // ---- the keyring

    public void setBounds(int uses, int age) throws IllegalArgumentException {
        demandArgument(isWithin(uses, 1, Keyring.MOST_BOUND) && isWithin(age, 1, Keyring.MOST_BOUND));
        keyring.bound(uses, age);
    }

    public int turn() {
        return keyring.makeKey(hour);
    }

    public int retire(int key) throws IllegalArgumentException {
        demandArgument(isWithin(key, keyring.leastKey(), keyring.keyOfNow()));
        return keyring.setLeast(key);
    }

    public int rewrap(int most) throws IllegalArgumentException, IllegalStateException {
        demandArgument(isWithin(most, 1, 50));
        demandState(seal.isOpened());
        return store.rewrapUpTo(most, keyring, hour);
    }

    public int key() {
        return keyring.keyOfNow();
    }

    // ---- engines

    public void mount(int first, int engine, int system) throws IllegalArgumentException, IllegalStateException {
        int lastSystem = engine == CREDENTIALS ? SYSTEMS - 1 : 0;
        demandArgument(isSegment(first) && isWithin(engine, NONE, CERTIFICATES) && isWithin(system, 0, lastSystem));
        demandState((engine == NONE) == (engines.engineAt(first) != NONE));
        engines.put(first, engine, system);
        if (engine == NONE) {
            clearBehindUnmounting(first);
        }
    }

    public int setQuota(int first, int quota) throws IllegalArgumentException {
        demandArgument(isSegment(first) && isWithin(quota, 0, MOST_QUOTA));
        return engines.allow(first, quota);
    }

    // ---- policies and people

    public int rule(int policy, int one, int two, int three, int powers, int approve) throws IndexOutOfBoundsException, IllegalArgumentException, IllegalStateException {
        demandIndex(isIndex(policy, POLICIES));
        demandArgument(isWithin(one, 0, REST) && isWithin(two, 0, REST) && isWithin(three, 0, REST));
        demandArgument(isWithin(powers, 0, ALL_POWERS) && isWithin(approve, 0, MOST_APPROVALS));
        demandState(rights.hasRoom(policy));
        return rights.addRule(policy, one, two, three, powers, approve);
    }

    public int clear(int policy) throws IndexOutOfBoundsException {
        demandIndex(isIndex(policy, POLICIES));
        return rights.removeRules(policy);
    }

    public int setPolicies(int what, int who, int policies) throws IndexOutOfBoundsException, IllegalArgumentException {
        boolean isKnownKind = isWithin(what, Rights.OF_METHOD, Rights.OF_GROUP);
        demandIndex(!isKnownKind || isIndex(who, Rights.countOf(what)));
        demandArgument(isKnownKind && isWithin(policies, 0, ALL_POLICIES));
        return rights.givePolicies(what, who, policies);
    }

    public int alias(int method, int name, int person) throws IndexOutOfBoundsException {
        demandIndex(isIndex(method, METHODS) && isIndex(name, NAMES) && isWithin(person, NONE, PEOPLE - 1));
        return rights.lead(method, name, person);
    }

    public int merge(int person, int into) throws IndexOutOfBoundsException, IllegalArgumentException {
        demandIndex(isIndex(person, PEOPLE) && isIndex(into, PEOPLE));
        demandArgument(person != into);
        tokens.handOver(person, into);
        rights.replaceMember(person, into);
        return rights.leadElsewhere(person, into);
    }

    public boolean member(int group, boolean isGroup, int member, boolean is) throws IndexOutOfBoundsException {
        demandIndex(isIndex(group, GROUPS) && isIndex(member, isGroup ? GROUPS : PEOPLE));
        return isGroup ? rights.setGroupIn(group, member, is) : rights.setPersonIn(group, member, is);
    }

    // ---- tokens

    public int login(int method, int name) throws IndexOutOfBoundsException {
        demandIndex(isIndex(method, METHODS) && isIndex(name, NAMES));
        int person = rights.personOf(method, name);
        if (!seal.isOpened()) {
            return SEALED;
        }
        if (person == NONE) {
            return DENIED;
        }
        if (tokens.isFull()) {
            return FULL;
        }
        int made = tokens.add(NONE, SERVICE, person, rights.policiesOfMethod(method));
        tokens.bound(made, hour, LOGIN_HOURS, LOGIN_MOST);
        tokens.limit(made, NONE, ALL_PLACES, false);
        return made;
    }

    public int token(int parent, int kind, int policies, int hours, int most, int uses, int places, boolean isOrphan) throws IllegalArgumentException {
        demandArgument(isWithin(kind, SERVICE, PERIODIC) && isWithin(policies, 0, ALL_POLICIES));
        demandArgument(isWithin(hours, 1, 100) && isWithin(most, hours, 200));
        demandArgument((uses == NONE || isWithin(uses, 1, 20)) && isWithin(places, 1, ALL_PLACES));
        int refusal = refusalOfChild(parent, policies);
        if (refusal != ADMITTED) {
            return refusal;
        }
        int made = tokens.add(parent, kind, parent == NONE ? NONE : tokens.personOf(parent), policies);
        tokens.bound(made, hour, hours, most);
        tokens.limit(made, uses, places, isOrphan);
        return made;
    }

    public int renewToken(int token, int hours) throws IndexOutOfBoundsException, IllegalArgumentException {
        demandIndex(tokens.isThere(token));
        demandArgument(isWithin(hours, 1, 100));
        if (!seal.isOpened()) {
            return SEALED;
        }
        if (!tokens.isAlive(token) || tokens.isBatch(token)) {
            return BAD_TOKEN;
        }
        return tokens.prolong(token, hour, hours);
    }

    public int revokeToken(int token) throws IndexOutOfBoundsException {
        demandIndex(tokens.isThere(token));
        return letDie(token);
    }

    public int uses(int token) throws IndexOutOfBoundsException {
        demandIndex(tokens.isThere(token));
        return tokens.usesLeft(token);
    }

    public boolean lives(int token) throws IndexOutOfBoundsException {
        demandIndex(tokens.isThere(token));
        return tokens.isAlive(token);
    }

    public int may(int token, int path) throws IndexOutOfBoundsException, IllegalArgumentException {
        demandIndex(tokens.isThere(token));
        demandArgument(isPath(path));
        return rightsAt(token, path);
    }

    // ---- values

    public int read(int token, int place, int path, int version) throws IllegalArgumentException {
        demandArgument(isPlace(place) && isPath(path) && isVersion(version));
        int admission = admit(token, place, path, READ);
        int answer = admission == ADMITTED ? readOrAsk(token, path, version) : admission;
        return conclude(token, path, READ, answer);
    }

    public int write(int token, int place, int path, int value, int expected) throws IllegalArgumentException {
        demandArgument(isPlace(place) && isPath(path));
        demandArgument(isWithin(value, 0, LAST_NUMBER) && isWithin(expected, NONE, LAST_VERSION));
        int admission = admit(token, place, path, WRITE);
        int answer = admission == ADMITTED ? writeAt(path, value, expected) : admission;
        return conclude(token, path, WRITE, answer);
    }

    public int erase(int token, int place, int path, int version, int state) throws IllegalArgumentException {
        demandArgument(isPlace(place) && isPath(path) && isVersion(version));
        demandArgument(isWithin(state, THERE, DESTROYED));
        int admission = admit(token, place, path, ERASE);
        int answer = admission == ADMITTED ? eraseAt(path, version, state) : admission;
        return conclude(token, path, ERASE, answer);
    }

    public int keyOf(int path, int version) throws IllegalArgumentException {
        demandArgument(isPath(path) && isVersion(version));
        int slot = store.slotOf(path, version);
        return slot == NONE || store.stateAt(slot) == DESTROYED ? NONE : store.keyAt(slot);
    }

    // ---- credentials and leases

    public int setSystem(int system, int how) throws IndexOutOfBoundsException, IllegalArgumentException {
        demandIndex(isIndex(system, SYSTEMS));
        demandArgument(isWithin(how, WORKS, LOSING));
        return leases.change(system, how);
    }

    public int issue(int token, int place, int path, int hours, int most) throws IllegalArgumentException {
        demandArgument(isPlace(place) && isPath(path));
        demandArgument(isWithin(hours, 1, 50) && isWithin(most, hours, 100));
        int admission = admit(token, place, path, ISSUE);
        int answer = admission == ADMITTED ? issueAt(token, path, hours, most) : admission;
        return conclude(token, path, ISSUE, answer);
    }

    public int renew(int lease, int hours) throws IndexOutOfBoundsException, IllegalArgumentException {
        demandIndex(leases.isThere(lease));
        demandArgument(isWithin(hours, 1, 50));
        if (!seal.isOpened()) {
            return SEALED;
        }
        if (leases.state(lease) != LIVE) {
            return NOT_THERE;
        }
        return leases.prolong(lease, hour + hours, tokens.endAt(leases.tokenOf(lease)));
    }

    public int revoke(int first, int second) throws IllegalArgumentException {
        demandArgument(isSegment(first) && (second == NONE || isSegment(second)));
        int from = first * PATHS_OF_FIRST + (second == NONE ? 0 : second * PATHS_OF_SECOND);
        int count = second == NONE ? PATHS_OF_FIRST : PATHS_OF_SECOND;
        return leases.endThoseAt(from, from + count, hour);
    }

    public int stateOf(int lease) throws IndexOutOfBoundsException {
        demandIndex(leases.isThere(lease));
        return leases.state(lease);
    }

    public int endOf(int lease) throws IndexOutOfBoundsException {
        demandIndex(leases.isThere(lease));
        return leases.end(lease);
    }

    public int credentials(int system) throws IndexOutOfBoundsException {
        demandIndex(isIndex(system, SYSTEMS));
        return leases.credentialsIn(system);
    }

    public int credentialsAnew(int system) throws IndexOutOfBoundsException {
        demandIndex(isIndex(system, SYSTEMS));
        return leases.countAnew(system);
    }

    // ---- wraps and cases

    public int wrap(int token, int place, int path, int version) throws IllegalArgumentException {
        demandArgument(isPlace(place) && isPath(path) && isVersion(version));
        int admission = admit(token, place, path, READ);
        int answer = admission == ADMITTED ? readOrAsk(token, path, version) : admission;
        if (answer >= 0) {
            answer = keptReads.addWrap(answer, hour);
        }
        return conclude(token, path, READ, answer);
    }

    public int open(int wrap) throws IndexOutOfBoundsException {
        demandIndex(keptReads.isWrap(wrap));
        return seal.isOpened() ? keptReads.unwrap(wrap, hour) : SEALED;
    }

    public int approve(int token, int place, int which) throws IndexOutOfBoundsException, IllegalArgumentException {
        demandIndex(keptReads.isCase(which));
        demandArgument(isPlace(place));
        int path = keptReads.pathOf(which);
        int admission = admit(token, place, path, ISSUE);
        int answer = admission == ADMITTED ? approveCase(token, which) : admission;
        return conclude(token, path, ISSUE, answer);
    }

    public int takeUp(int token, int place, int which) throws IndexOutOfBoundsException, IllegalArgumentException {
        demandIndex(keptReads.isCase(which));
        demandArgument(isPlace(place));
        int path = keptReads.pathOf(which);
        int admission = admit(token, place, path, READ);
        int answer = admission == ADMITTED ? takeUpCase(token, which) : admission;
        return conclude(token, path, READ, answer);
    }

    public int cases() {
        return keptReads.countOfCases();
    }

    // ---- certificates

    public int certify(int token, int place, int path, int hours) throws IllegalArgumentException {
        demandArgument(isPlace(place) && isPath(path) && isWithin(hours, 1, 200));
        int admission = admit(token, place, path, ISSUE);
        int answer = admission == ADMITTED ? certifyAt(path, hours) : admission;
        return conclude(token, path, ISSUE, answer);
    }

    public boolean revokeCertificate(int certificate) throws IndexOutOfBoundsException {
        demandIndex(certificates.isThere(certificate));
        return certificates.markRevoked(certificate);
    }

    public int publish() {
        return certificates.publishList(hour);
    }

    public boolean isGood(int certificate) throws IndexOutOfBoundsException {
        demandIndex(certificates.isThere(certificate));
        return certificates.isGoodAt(certificate, hour);
    }

    public int issuerOf(int certificate) throws IndexOutOfBoundsException {
        demandIndex(certificates.isThere(certificate));
        return certificates.issuer(certificate);
    }

    // ---- sinks, the far site, hours

    public boolean setSink(int sink, boolean isOn, boolean blocks, int salt) throws IndexOutOfBoundsException, IllegalArgumentException {
        demandIndex(isIndex(sink, SINKS));
        demandArgument(isWithin(salt, 1, MOST_SALT));
        return sinks.change(sink, isOn, blocks, salt);
    }

    public int hash(int sink) throws IndexOutOfBoundsException {
        demandIndex(isIndex(sink, SINKS));
        return sinks.hashOf(sink);
    }

    public int ship(int most) throws IllegalArgumentException {
        demandArgument(isWithin(most, 1, 100));
        return farSite.shipUpTo(most);
    }

    public int farRead(int token, int path, int version) throws IllegalArgumentException {
        demandArgument(isPath(path) && isVersion(version));
        if (!tokens.isThere(token) || !tokens.isAlive(token)) {
            return BAD_TOKEN;
        }
        int rightsThere = rightsAt(token, path);
        if ((rightsThere & READ) == 0) {
            return DENIED;
        }
        if (rightsThere >= APPROVALS_UNIT) {
            return PENDING;
        }
        return farSite.store().numberOrWhyNot(path, version, keyring.leastKey());
    }

    public int pass(int hours) throws IllegalArgumentException {
        demandArgument(isWithin(hours, 1, 50));
        for (int i = 0; i < hours; i++) {
            beginHour();
        }
        return hour;
    }

    // ---- what an argument has to be

    private static void demandIndex(boolean isThere) {
        if (!isThere) {
            throw new IndexOutOfBoundsException();
        }
    }

    private static void demandArgument(boolean isInRange) {
        if (!isInRange) {
            throw new IllegalArgumentException();
        }
    }

    private static void demandState(boolean isAsNeeded) {
        if (!isAsNeeded) {
            throw new IllegalStateException();
        }
    }

    private static boolean isWithin(int value, int least, int most) {
        return value >= least && value <= most;
    }

    private static boolean isIndex(int index, int count) {
        return index >= 0 && index < count;
    }

    private static boolean isSegment(int segment) {
        return isIndex(segment, SEGMENTS);
    }

    private static boolean isPath(int path) {
        return isIndex(path, PATHS);
    }

    private static boolean isPlace(int place) {
        return isIndex(place, PLACES);
    }

    private static boolean isVersion(int version) {
        return isWithin(version, 0, LAST_VERSION);
    }

    private static boolean isDealing(int seed, int shares, int threshold) {
        return isWithin(seed, 0, LAST_SEED) && isWithin(shares, 1, MOST_SHARES) && isWithin(threshold, 1, shares);
    }

    private static int firstOf(int path) {
        return path / PATHS_OF_FIRST;
    }

    // ---- the ways of a request

    /** The first refusal that does not depend on the call, or ADMITTED; counts the use and the turn of the quota. */
    private int admit(int token, int place, int path, int power) {
        if (!seal.isOpened()) {
            return SEALED;
        }
        if (sinks.areAllBlocking()) {
            return BLOCKED;
        }
        if (!tokens.isUsableFrom(token, place)) {
            return BAD_TOKEN;
        }
        tokens.countUse(token);
        if (!engines.countRequest(firstOf(path))) {
            return TOO_MANY;
        }
        return (rightsAt(token, path) & power) == 0 ? DENIED : ADMITTED;
    }

    /** Tells the sinks, and lets a token die only here, so that its last request is still done. */
    private int conclude(int token, int path, int power, int answer) {
        if (answer == SEALED || answer == BLOCKED) {
            return answer;
        }
        boolean isThere = tokens.isThere(token);
        sinks.tell(isThere ? token : 0, path, power, answer);
        if (isThere && tokens.usesLeft(token) == 0) {
            letDie(token);
        }
        return answer;
    }

    private int rightsAt(int token, int path) {
        return rights.at(tokens.policiesOf(token), tokens.personOf(token), path);
    }

    private int refusalOfChild(int parent, int policies) {
        if (!seal.isOpened()) {
            return SEALED;
        }
        if (parent != NONE) {
            if (!tokens.isThere(parent) || !tokens.isAlive(parent) || tokens.isBatch(parent)) {
                return BAD_TOKEN;
            }
            if ((policies & ~tokens.policiesOf(parent)) != 0) {
                return DENIED;
            }
        }
        return tokens.isFull() ? FULL : ADMITTED;
    }

    /** How many tokens died. */
    private int letDie(int token) {
        int died = tokens.kill(token);
        leases.endThoseOfDead(tokens, hour);
        return died;
    }

    private int numberAt(int path, int version) {
        if (engines.engineAt(firstOf(path)) != VALUES) {
            return WRONG_ENGINE;
        }
        return store.numberOrWhyNot(path, version, keyring.leastKey());
    }

    private int readOrAsk(int token, int path, int version) {
        int number = numberAt(path, version);
        int approvals = rightsAt(token, path) / APPROVALS_UNIT;
        return number < 0 || approvals == 0 ? number : keptReads.addCase(token, path, version, approvals);
    }

    private int writeAt(int path, int value, int expected) {
        if (engines.engineAt(firstOf(path)) != VALUES) {
            return WRONG_ENGINE;
        }
        if (expected != NONE && expected != store.lastOf(path)) {
            return UNEXPECTED;
        }
        int key = keyring.keyToKeep(hour);
        farSite.logWrite(path, value, key);
        return store.put(path, value, key);
    }

    private int eraseAt(int path, int version, int state) {
        if (engines.engineAt(firstOf(path)) != VALUES) {
            return WRONG_ENGINE;
        }
        int slot = store.slotOf(path, version);
        if (slot == NONE || store.stateAt(slot) == DESTROYED) {
            return NOT_THERE;
        }
        farSite.logErase(path, version == 0 ? store.lastOf(path) : version, state);
        return store.setState(slot, state);
    }

    private int issueAt(int token, int path, int hours, int most) {
        int first = firstOf(path);
        if (engines.engineAt(first) != CREDENTIALS) {
            return WRONG_ENGINE;
        }
        if (leases.isFull()) {
            return FULL;
        }
        int system = engines.systemAt(first);
        if (!leases.makeCredential(system)) {
            return NO_ANSWER;
        }
        int lease = leases.add(token, path, system);
        leases.bound(lease, Math.min(hour + hours, tokens.endAt(token)), hour + most);
        return lease;
    }

    private int approveCase(int token, int which) {
        if (!keptReads.isPending(which)) {
            return NOT_THERE;
        }
        int asker = keptReads.askerOf(which);
        int person = tokens.personOf(token);
        if (token == asker || person == NONE || person == tokens.personOf(asker)) {
            return BAD_TOKEN;
        }
        return keptReads.addApproval(which, person);
    }

    private int takeUpCase(int token, int which) {
        if (!keptReads.isPending(which)) {
            return NOT_THERE;
        }
        if (token != keptReads.askerOf(which)) {
            return BAD_TOKEN;
        }
        if (!keptReads.isApproved(which)) {
            return PENDING;
        }
        int number = numberAt(keptReads.pathOf(which), keptReads.versionOf(which));
        if (number >= 0) {
            keptReads.close(which);
        }
        return number;
    }

    private int certifyAt(int path, int hours) {
        if (engines.engineAt(firstOf(path)) != CERTIFICATES) {
            return WRONG_ENGINE;
        }
        if (certificates.isFull()) {
            return FULL;
        }
        int issuer = certificates.issuerFor(path);
        if (issuer != NONE && !certificates.isGoodAt(issuer, hour)) {
            return NOT_THERE;
        }
        return certificates.add(path, issuer, hour + hours);
    }

    private void clearBehindUnmounting(int first) {
        int from = first * PATHS_OF_FIRST;
        int behind = from + PATHS_OF_FIRST;
        store.forget(from, behind);
        farSite.forgetAll(from, behind);
        leases.endThoseAt(from, behind, hour);
        keptReads.closeThoseAt(from, behind);
    }

    private void beginHour() {
        hour++;
        engines.beginCounting();
        for (int token = 0; token < tokens.count(); token++) {
            if (tokens.isAlive(token) && tokens.endAt(token) == hour) {
                letDie(token);
            }
        }
        leases.endThoseDue(hour);
        leases.tryAgain(hour);
        leases.rollBack();
    }

    /** The root key and its shares; opening and dealing anew never overlap, so both gather in the same row. */
    private static final class Seal {
        private int rootKey = NONE;
        private int shareCount;
        private int threshold;
        private final int[] shares = new int[MOST_SHARES + 1];
        private final int[] given = new int[MOST_SHARES + 1];
        private int givenCount;
        private boolean isUnlocked;
        private boolean isBegun;
        private int newSeed;
        private int newShareCount;
        private int newThreshold;

        Seal() {
            for (int i = 0; i < given.length; i++) {
                given[i] = NONE;
            }
        }

        boolean isDealt() {
            return shareCount > 0;
        }

        boolean isShare(int share) {
            return share >= 1 && share <= shareCount;
        }

        int valueOf(int share) {
            return shares[share];
        }

        boolean isOpened() {
            return isUnlocked;
        }

        boolean isDealingBegun() {
            return isBegun;
        }

        void dealShares(int seed, int newCount, int needed) {
            int x = seed;
            if (rootKey == NONE) {
                x = nextDraw(x);
                rootKey = x % PRIME;
            }
            shareCount = newCount;
            threshold = needed;
            for (int i = 1; i <= shareCount; i++) {
                shares[i] = rootKey;
            }
            for (int degree = 1; degree < threshold; degree++) {
                x = nextDraw(x);
                addTerm(x % PRIME, degree);
            }
        }

        int takeForOpening(int share, int value) {
            if (gather(share, value) < threshold) {
                return givenCount;
            }
            isUnlocked = keyOfGiven() == rootKey;
            forgetGiven();
            return 0;
        }

        void beginDealing(int seed, int newCount, int needed) {
            forgetGiven();
            isBegun = true;
            newSeed = seed;
            newShareCount = newCount;
            newThreshold = needed;
        }

        int takeForDealing(int share, int value) {
            if (gather(share, value) < threshold) {
                return givenCount;
            }
            boolean isRight = keyOfGiven() == rootKey;
            forgetGiven();
            isBegun = false;
            if (isRight) {
                dealShares(newSeed, newShareCount, newThreshold);
            }
            return 0;
        }

        boolean close() {
            boolean wasOpen = isUnlocked;
            isUnlocked = false;
            isBegun = false;
            forgetGiven();
            return wasOpen;
        }

        private static int nextDraw(int x) {
            return (1103 * x + 12345) % 65536;
        }

        private void addTerm(int coefficient, int degree) {
            for (int i = 1; i <= shareCount; i++) {
                int term = coefficient;
                for (int times = 0; times < degree; times++) {
                    term = term * i % PRIME;
                }
                shares[i] = (shares[i] + term) % PRIME;
            }
        }

        private int gather(int share, int value) {
            if (given[share] == NONE) {
                givenCount++;
            }
            given[share] = value;
            return givenCount;
        }

        private void forgetGiven() {
            for (int i = 0; i < given.length; i++) {
                given[i] = NONE;
            }
            givenCount = 0;
        }

        /** What the one polynomial through the given shares has at 0 (Lagrange's way). */
        private int keyOfGiven() {
            int sum = 0;
            for (int i = 1; i <= shareCount; i++) {
                if (given[i] != NONE) {
                    sum = (sum + given[i] * weightOf(i)) % PRIME;
                }
            }
            return sum;
        }

        private int weightOf(int share) {
            int weight = 1;
            for (int i = 1; i <= shareCount; i++) {
                if (given[i] != NONE && i != share) {
                    weight = weight * i % PRIME * inverse(Math.floorMod(i - share, PRIME)) % PRIME;
                }
            }
            return weight;
        }

        /** The number to the power 255, which is its inverse, as 257 is a prime. */
        private static int inverse(int number) {
            int result = 1;
            int square = number;
            for (int bit = 0; bit < 8; bit++) {
                result = result * square % PRIME;
                square = square * square % PRIME;
            }
            return result;
        }
    }

    /** Only the key of now is still used and ages, so the older ones need no rows. */
    private static final class Keyring {
        static final int MOST_BOUND = 1000;

        private int now = 1;
        private int usesOfNow;
        private int madeAt;
        private int least = 1;
        private int usesBound = MOST_BOUND;
        private int ageBound = MOST_BOUND;

        Keyring() {
        }

        void bound(int uses, int age) {
            usesBound = uses;
            ageBound = age;
        }

        int keyOfNow() {
            return now;
        }

        int leastKey() {
            return least;
        }

        int setLeast(int key) {
            int before = least;
            least = key;
            return before;
        }

        int makeKey(int hour) {
            now++;
            usesOfNow = 0;
            madeAt = hour;
            return now;
        }

        /** The key under which a value is kept now; a use of it. */
        int keyToKeep(int hour) {
            if (usesOfNow >= usesBound || hour - madeAt >= ageBound) {
                makeKey(hour);
            }
            usesOfNow++;
            return now;
        }
    }

    /** What is mounted at each first segment, and how many requests it may have in an hour. */
    private static final class Engines {
        private final int[] mounted = new int[SEGMENTS];
        private final int[] systems = new int[SEGMENTS];
        private final int[] quotas = new int[SEGMENTS];
        private final int[] requests = new int[SEGMENTS];

        Engines() {
            for (int first = 0; first < SEGMENTS; first++) {
                mounted[first] = NONE;
                quotas[first] = MOST_QUOTA;
            }
        }

        int engineAt(int first) {
            return mounted[first];
        }

        int systemAt(int first) {
            return systems[first];
        }

        void put(int first, int engine, int system) {
            mounted[first] = engine;
            systems[first] = system;
        }

        int allow(int first, int quota) {
            int before = quotas[first];
            quotas[first] = quota;
            return before;
        }

        /** Whether the quota lets one more come; one that it does not let come does not count. */
        boolean countRequest(int first) {
            if (requests[first] >= quotas[first]) {
                return false;
            }
            requests[first]++;
            return true;
        }

        void beginCounting() {
            for (int first = 0; first < SEGMENTS; first++) {
                requests[first] = 0;
            }
        }
    }

    /** Rules of policies, and who has them: people, by their logins and groups. Sets of policies and members are bits. */
    private static final class Rights {
        static final int OF_METHOD = 0, OF_PERSON = 1, OF_GROUP = 2;

        private static final int MOST_RULES = 5;
        /** Of a part, from the most exact on; so a pattern's vagueness is a number of three digits to the base 4. */
        private static final int BY_SEGMENT = 0, BY_SELF = 1, BY_ANY = 2, BY_REST = 3, MISFIT = 4;
        private static final int VAGUER_THAN_ALL = 64;

        private final int[] ruleCounts = new int[POLICIES];
        private final int[] parts = new int[POLICIES * MOST_RULES * PATH_PARTS];
        private final int[] powersOf = new int[POLICIES * MOST_RULES];
        private final int[] approvalsOf = new int[POLICIES * MOST_RULES];
        private final int[] personOfLogin = new int[METHODS * NAMES];
        private final int[] ofMethods = new int[METHODS];
        private final int[] ofPeople = new int[PEOPLE];
        private final int[] ofGroups = new int[GROUPS];
        private final int[] peopleIn = new int[GROUPS];
        private final int[] groupsIn = new int[GROUPS];

        Rights() {
            for (int i = 0; i < personOfLogin.length; i++) {
                personOfLogin[i] = NONE;
            }
        }

        boolean hasRoom(int policy) {
            return ruleCounts[policy] < MOST_RULES;
        }

        int addRule(int policy, int one, int two, int three, int powers, int approve) {
            int rule = policy * MOST_RULES + ruleCounts[policy];
            parts[rule * PATH_PARTS] = one;
            parts[rule * PATH_PARTS + 1] = two;
            parts[rule * PATH_PARTS + 2] = three;
            powersOf[rule] = powers;
            approvalsOf[rule] = approve;
            ruleCounts[policy]++;
            return ruleCounts[policy];
        }

        int removeRules(int policy) {
            int before = ruleCounts[policy];
            ruleCounts[policy] = 0;
            return before;
        }

        /** The powers and 16 times the approvals, by the most exact rules that fit. */
        int at(int ownPolicies, int person, int path) {
            int policies = ownPolicies | policiesOfPerson(person);
            int least = VAGUER_THAN_ALL - 1;
            int powers = 0;
            int approvals = 0;
            boolean isDenied = false;
            for (int rule = 0; rule < powersOf.length; rule++) {
                int vagueness = isInForce(rule, policies) ? vaguenessAt(rule, person, path) : VAGUER_THAN_ALL;
                if (vagueness < least) {
                    least = vagueness;
                    powers = 0;
                    approvals = 0;
                    isDenied = false;
                }
                if (vagueness == least) {
                    powers |= powersOf[rule];
                    approvals = Math.max(approvals, approvalsOf[rule]);
                    isDenied |= powersOf[rule] == 0;
                }
            }
            return isDenied ? 0 : powers + APPROVALS_UNIT * approvals;
        }

        private boolean isInForce(int rule, int policies) {
            int policy = rule / MOST_RULES;
            return (policies >> policy & 1) == 1 && rule % MOST_RULES < ruleCounts[policy];
        }

        private int vaguenessAt(int rule, int person, int path) {
            int vagueness = 0;
            boolean isBehindRest = false;
            for (int i = 0; i < PATH_PARTS; i++) {
                int part = isBehindRest ? REST : parts[rule * PATH_PARTS + i];
                int digit = digitOf(part, person, segmentOf(path, i));
                if (digit == MISFIT) {
                    return VAGUER_THAN_ALL;
                }
                vagueness = vagueness * 4 + digit;
                isBehindRest = part == REST;
            }
            return vagueness;
        }

        private static int digitOf(int part, int person, int segment) {
            if (part == REST) {
                return BY_REST;
            }
            if (part == ANY) {
                return BY_ANY;
            }
            if (part == SELF) {
                return person != NONE && person % SEGMENTS == segment ? BY_SELF : MISFIT;
            }
            return part == segment ? BY_SEGMENT : MISFIT;
        }

        private static int segmentOf(int path, int part) {
            if (part == 0) {
                return firstOf(path);
            }
            return part == 1 ? path / PATHS_OF_SECOND % SEGMENTS : path % SEGMENTS;
        }

        static int countOf(int what) {
            if (what == OF_METHOD) {
                return METHODS;
            }
            return what == OF_PERSON ? PEOPLE : GROUPS;
        }

        int givePolicies(int what, int who, int policies) {
            if (what == OF_METHOD) {
                return exchange(ofMethods, who, policies);
            }
            return exchange(what == OF_PERSON ? ofPeople : ofGroups, who, policies);
        }

        int lead(int method, int name, int person) {
            return exchange(personOfLogin, method * NAMES + name, person);
        }

        int personOf(int method, int name) {
            return personOfLogin[method * NAMES + name];
        }

        int policiesOfMethod(int method) {
            return ofMethods[method];
        }

        int leadElsewhere(int person, int into) {
            int led = 0;
            for (int i = 0; i < personOfLogin.length; i++) {
                if (personOfLogin[i] == person) {
                    personOfLogin[i] = into;
                    led++;
                }
            }
            return led;
        }

        void replaceMember(int person, int into) {
            for (int group = 0; group < GROUPS; group++) {
                if (setPersonIn(group, person, false)) {
                    setPersonIn(group, into, true);
                }
            }
        }

        boolean setPersonIn(int group, int person, boolean is) {
            return setBit(peopleIn, group, person, is);
        }

        boolean setGroupIn(int group, int member, boolean is) {
            return setBit(groupsIn, group, member, is);
        }

        /** Of the person and of all groups in which it is; none for nobody. */
        private int policiesOfPerson(int person) {
            if (person < 0 || person >= PEOPLE) {
                return 0;
            }
            int policies = ofPeople[person];
            int groups = groupsOf(person);
            for (int group = 0; group < GROUPS; group++) {
                if ((groups >> group & 1) == 1) {
                    policies |= ofGroups[group];
                }
            }
            return policies;
        }

        /** Going round as often as there are groups reaches the longest chain, and ends in rings too. */
        private int groupsOf(int person) {
            int groups = 0;
            for (int round = 0; round < GROUPS; round++) {
                for (int group = 0; group < GROUPS; group++) {
                    if ((peopleIn[group] >> person & 1) == 1 || (groupsIn[group] & groups) != 0) {
                        groups |= 1 << group;
                    }
                }
            }
            return groups;
        }

        private static int exchange(int[] row, int index, int value) {
            int before = row[index];
            row[index] = value;
            return before;
        }

        private static boolean setBit(int[] row, int index, int bit, boolean is) {
            boolean was = (row[index] >> bit & 1) == 1;
            row[index] = is ? row[index] | 1 << bit : row[index] & ~(1 << bit);
            return was;
        }
    }

    /** A parent is always made ahead of its children, so that one walk by rising numbers finds all that die. */
    private static final class Tokens {
        private static final int MOST = 40;

        private int made;
        private final int[] parents = new int[MOST];
        private final int[] kinds = new int[MOST];
        private final int[] persons = new int[MOST];
        private final int[] policySets = new int[MOST];
        private final int[] ends = new int[MOST];
        private final int[] latestEnds = new int[MOST];
        private final int[] periods = new int[MOST];
        private final int[] usesOf = new int[MOST];
        private final int[] placeSets = new int[MOST];
        private final boolean[] areOrphans = new boolean[MOST];
        private final boolean[] areDead = new boolean[MOST];

        Tokens() {
        }

        int count() {
            return made;
        }

        boolean isFull() {
            return made >= MOST;
        }

        boolean isThere(int token) {
            return token >= 0 && token < made;
        }

        boolean isAlive(int token) {
            return !areDead[token];
        }

        boolean isBatch(int token) {
            return kinds[token] == BATCH;
        }

        int personOf(int token) {
            return persons[token];
        }

        int policiesOf(int token) {
            return policySets[token];
        }

        int endAt(int token) {
            return ends[token];
        }

        int usesLeft(int token) {
            return usesOf[token];
        }

        int add(int parent, int kind, int person, int policies) {
            int token = made;
            parents[token] = parent;
            kinds[token] = kind;
            persons[token] = person;
            policySets[token] = policies;
            made++;
            return token;
        }

        void bound(int token, int hour, int hours, int most) {
            ends[token] = hour + hours;
            latestEnds[token] = hour + most;
            periods[token] = hours;
        }

        void limit(int token, int uses, int places, boolean isOrphan) {
            usesOf[token] = uses;
            placeSets[token] = places;
            areOrphans[token] = isOrphan;
        }

        int prolong(int token, int hour, int hours) {
            boolean isPeriodic = kinds[token] == PERIODIC;
            ends[token] = isPeriodic ? hour + periods[token] : Math.min(hour + hours, latestEnds[token]);
            return ends[token];
        }

        void handOver(int person, int into) {
            for (int token = 0; token < made; token++) {
                if (persons[token] == person) {
                    persons[token] = into;
                }
            }
        }

        boolean isUsableFrom(int token, int place) {
            return isThere(token) && isAlive(token) && (placeSets[token] >> place & 1) == 1;
        }

        void countUse(int token) {
            if (usesOf[token] > 0) {
                usesOf[token]--;
            }
        }

        /** How many died: the token, if it lived, and what stands under it. */
        int kill(int token) {
            if (areDead[token]) {
                return 0;
            }
            areDead[token] = true;
            int died = 1;
            for (int child = token + 1; child < made; child++) {
                if (!areDead[child] && isLeftByDead(child)) {
                    areDead[child] = true;
                    died++;
                }
            }
            return died;
        }

        private boolean isLeftByDead(int child) {
            int parent = parents[child];
            return !areOrphans[child] && isThere(parent) && areDead[parent];
        }
    }

    /** Leases, and the outside systems in which their credentials are. */
    private static final class Leases {
        private static final int MOST = 40;
        private static final int MOST_TRIES = 3;

        private int made;
        private final int[] tokenOfLease = new int[MOST];
        private final int[] paths = new int[MOST];
        private final int[] systems = new int[MOST];
        private final int[] ends = new int[MOST];
        private final int[] latestEnds = new int[MOST];
        private final int[] states = new int[MOST];
        private final int[] tries = new int[MOST];
        private final int[] ways = new int[SYSTEMS];
        private final int[] credentialCounts = new int[SYSTEMS];
        private final int[] recordCounts = new int[SYSTEMS];

        Leases() {
        }

        boolean isFull() {
            return made >= MOST;
        }

        boolean isThere(int lease) {
            return lease >= 0 && lease < made;
        }

        int tokenOf(int lease) {
            return tokenOfLease[lease];
        }

        int state(int lease) {
            return states[lease];
        }

        int end(int lease) {
            return ends[lease];
        }

        int credentialsIn(int system) {
            return credentialCounts[system];
        }

        int change(int system, int how) {
            int before = ways[system];
            ways[system] = how;
            return before;
        }

        /** Whether its answer comes; one that is made without an answer leaves a record. */
        boolean makeCredential(int system) {
            if (ways[system] == REFUSES) {
                return false;
            }
            credentialCounts[system]++;
            if (ways[system] == LOSING) {
                recordCounts[system]++;
                return false;
            }
            return true;
        }

        int add(int token, int path, int system) {
            int lease = made;
            tokenOfLease[lease] = token;
            paths[lease] = path;
            systems[lease] = system;
            states[lease] = LIVE;
            tries[lease] = 0;
            made++;
            return lease;
        }

        void bound(int lease, int end, int latestEnd) {
            ends[lease] = end;
            latestEnds[lease] = latestEnd;
        }

        int prolong(int lease, int end, int endOfToken) {
            ends[lease] = Math.min(end, Math.min(latestEnds[lease], endOfToken));
            return ends[lease];
        }

        /** Those at paths from one on and ahead of another; how many ended. */
        int endThoseAt(int from, int behind, int hour) {
            int ended = 0;
            for (int lease = 0; lease < made; lease++) {
                if (states[lease] == LIVE && paths[lease] >= from && paths[lease] < behind) {
                    endNow(lease, hour);
                    ended++;
                }
            }
            return ended;
        }

        void endThoseOfDead(Tokens tokens, int hour) {
            for (int lease = 0; lease < made; lease++) {
                if (states[lease] == LIVE && !tokens.isAlive(tokenOfLease[lease])) {
                    endNow(lease, hour);
                }
            }
        }

        void endThoseDue(int hour) {
            for (int lease = 0; lease < made; lease++) {
                if (states[lease] == LIVE && ends[lease] == hour) {
                    endNow(lease, hour);
                }
            }
        }

        /** Those that ended in this very hour had their try already. */
        void tryAgain(int hour) {
            for (int lease = 0; lease < made; lease++) {
                if (states[lease] == ENDING && ends[lease] < hour) {
                    tryToRemove(lease);
                }
            }
        }

        void rollBack() {
            for (int system = 0; system < SYSTEMS; system++) {
                if (ways[system] == WORKS) {
                    credentialCounts[system] -= recordCounts[system];
                    recordCounts[system] = 0;
                }
            }
        }

        int countAnew(int system) {
            int count = recordCounts[system];
            for (int lease = 0; lease < made; lease++) {
                if (systems[lease] == system && states[lease] != ENDED) {
                    count++;
                }
            }
            return count;
        }

        private void endNow(int lease, int hour) {
            ends[lease] = hour;
            tryToRemove(lease);
        }

        private void tryToRemove(int lease) {
            int system = systems[lease];
            tries[lease]++;
            if (ways[system] != REFUSES) {
                credentialCounts[system]--;
                states[lease] = ENDED;
            } else {
                states[lease] = tries[lease] < MOST_TRIES ? ENDING : STUCK;
            }
        }
    }

    /** The versions at all paths, in the house or at the far site; a version's slot is the one of the fourth before it. */
    private static final class Store {
        private static final int KEPT = 4;

        private final int[] lasts = new int[PATHS];
        private final int[] numbers = new int[PATHS * KEPT];
        private final int[] keys = new int[PATHS * KEPT];
        private final int[] states = new int[PATHS * KEPT];

        Store() {
        }

        int lastOf(int path) {
            return lasts[path];
        }

        int stateAt(int slot) {
            return states[slot];
        }

        int keyAt(int slot) {
            return keys[slot];
        }

        /** The slot of a version, 0 being the last one; NONE if it is not kept. */
        int slotOf(int path, int version) {
            int last = lasts[path];
            int wanted = version == 0 ? last : version;
            boolean isKept = wanted >= 1 && wanted <= last && wanted > last - KEPT;
            return isKept ? path * KEPT + Math.floorMod(wanted, KEPT) : NONE;
        }

        /** The new version. */
        int put(int path, int number, int key) {
            int version = lasts[path] + 1;
            int slot = path * KEPT + Math.floorMod(version, KEPT);
            lasts[path] = version;
            numbers[slot] = number;
            keys[slot] = key;
            states[slot] = THERE;
            return version;
        }

        /** The state before. */
        int setState(int slot, int state) {
            int before = states[slot];
            states[slot] = state;
            if (state == DESTROYED) {
                numbers[slot] = NONE;
            }
            return before;
        }

        int numberOrWhyNot(int path, int version, int leastKey) {
            int slot = slotOf(path, version);
            if (slot == NONE || states[slot] != THERE) {
                return NOT_THERE;
            }
            return keys[slot] < leastKey ? UNREADABLE : numbers[slot];
        }

        void forget(int from, int behind) {
            for (int path = from; path < behind; path++) {
                lasts[path] = 0;
            }
        }

        /** How many were; the keyring may turn under way, but what is under such a new key stays as it is. */
        int rewrapUpTo(int most, Keyring keyring, int hour) {
            int keyAtFirst = keyring.keyOfNow();
            int done = 0;
            for (int path = 0; path < PATHS; path++) {
                for (int version = Math.max(1, lasts[path] - KEPT + 1); version <= lasts[path] && done < most; version++) {
                    int slot = path * KEPT + Math.floorMod(version, KEPT);
                    if (states[slot] != DESTROYED && keys[slot] < keyAtFirst && keys[slot] >= keyring.leastKey()) {
                        keys[slot] = keyring.keyToKeep(hour);
                        done++;
                    }
                }
            }
            return done;
        }
    }

    /** The log of what was done to values, and the store into which it is shipped. */
    private static final class FarSite {
        /** No object is promised more calls than this, and a call logs one entry at most. */
        private static final int MOST_ENTRIES = 512;
        private static final int ERASING = 0;

        private final Store shippedValues = new Store();
        private final int[] paths = new int[MOST_ENTRIES];
        private final int[] versions = new int[MOST_ENTRIES];
        private final int[] contents = new int[MOST_ENTRIES];
        private final int[] keys = new int[MOST_ENTRIES];
        private int logged;
        private int shipped;

        FarSite() {
        }

        Store store() {
            return shippedValues;
        }

        void logWrite(int path, int number, int key) {
            logEntry(path, 0, number, key);
        }

        void logErase(int path, int version, int state) {
            logEntry(path, version, state, ERASING);
        }

        /** How many are left. */
        int shipUpTo(int most) {
            for (int i = 0; i < most && shipped < logged; i++) {
                repeat(shipped);
                shipped++;
            }
            return logged - shipped;
        }

        /** All that is known of the paths from one on and ahead of another, also what is still to be shipped. */
        void forgetAll(int from, int behind) {
            shippedValues.forget(from, behind);
            int left = shipped;
            for (int entry = shipped; entry < logged; entry++) {
                if (paths[entry] < from || paths[entry] >= behind) {
                    moveEntry(entry, left);
                    left++;
                }
            }
            logged = left;
        }

        private void logEntry(int path, int version, int content, int key) {
            if (logged >= MOST_ENTRIES) {
                return;
            }
            paths[logged] = path;
            versions[logged] = version;
            contents[logged] = content;
            keys[logged] = key;
            logged++;
        }

        private void moveEntry(int from, int to) {
            paths[to] = paths[from];
            versions[to] = versions[from];
            contents[to] = contents[from];
            keys[to] = keys[from];
        }

        private void repeat(int entry) {
            if (keys[entry] != ERASING) {
                shippedValues.put(paths[entry], contents[entry], keys[entry]);
                return;
            }
            int slot = shippedValues.slotOf(paths[entry], versions[entry]);
            if (slot != NONE) {
                shippedValues.setState(slot, contents[entry]);
            }
        }
    }

    /** Reads that end in a later call: wraps that are to be opened, and cases that others must approve. */
    private static final class KeptReads {
        private static final int MOST = 20;
        private static final int HOURS_OF_WRAP = 5;

        private int wrapCount;
        private final int[] numbers = new int[MOST];
        private final int[] wrappedAt = new int[MOST];
        private final boolean[] areOpened = new boolean[MOST];
        private int caseCount;
        private final int[] askers = new int[MOST];
        private final int[] paths = new int[MOST];
        private final int[] versions = new int[MOST];
        private final int[] needed = new int[MOST];
        private final int[] approvers = new int[MOST];
        private final boolean[] areClosed = new boolean[MOST];

        KeptReads() {
        }

        boolean isWrap(int wrap) {
            return wrap >= 0 && wrap < wrapCount;
        }

        int addWrap(int number, int hour) {
            if (wrapCount >= MOST) {
                return FULL;
            }
            int wrap = wrapCount;
            numbers[wrap] = number;
            wrappedAt[wrap] = hour;
            wrapCount++;
            return wrap;
        }

        int unwrap(int wrap, int hour) {
            if (areOpened[wrap] || hour - wrappedAt[wrap] > HOURS_OF_WRAP) {
                return NOT_THERE;
            }
            areOpened[wrap] = true;
            return numbers[wrap];
        }

        int countOfCases() {
            return caseCount;
        }

        boolean isCase(int which) {
            return which >= 0 && which < caseCount;
        }

        int askerOf(int which) {
            return askers[which];
        }

        int pathOf(int which) {
            return paths[which];
        }

        int versionOf(int which) {
            return versions[which];
        }

        /** Whether it is neither taken up nor void. */
        boolean isPending(int which) {
            return !areClosed[which];
        }

        boolean isApproved(int which) {
            return Integer.bitCount(approvers[which]) >= needed[which];
        }

        int addCase(int token, int path, int version, int approvals) {
            if (caseCount >= MOST) {
                return FULL;
            }
            askers[caseCount] = token;
            paths[caseCount] = path;
            versions[caseCount] = version;
            needed[caseCount] = approvals;
            caseCount++;
            return PENDING;
        }

        int addApproval(int which, int person) {
            approvers[which] |= 1 << person;
            return Integer.bitCount(approvers[which]);
        }

        void close(int which) {
            areClosed[which] = true;
        }

        void closeThoseAt(int from, int behind) {
            for (int which = 0; which < caseCount; which++) {
                if (paths[which] >= from && paths[which] < behind) {
                    close(which);
                }
            }
        }
    }

    /** Certificates, which of them are revoked, and which are on the list that was published last. */
    private static final class Certificates {
        private static final int MOST = 30;

        private int made;
        private final int[] paths = new int[MOST];
        private final int[] ends = new int[MOST];
        private final int[] issuers = new int[MOST];
        private final boolean[] areRevoked = new boolean[MOST];
        private final boolean[] areListed = new boolean[MOST];

        Certificates() {
        }

        boolean isFull() {
            return made >= MOST;
        }

        boolean isThere(int certificate) {
            return certificate >= 0 && certificate < made;
        }

        int issuer(int certificate) {
            return issuers[certificate];
        }

        /** The other certificate that issues at a path, or NONE if one there is its own issuer. */
        int issuerFor(int path) {
            int third = path % SEGMENTS;
            if (third == 0) {
                return NONE;
            }
            for (int certificate = made - 1; certificate >= 0; certificate--) {
                if (paths[certificate] == path - third) {
                    return certificate;
                }
            }
            return NONE;
        }

        int add(int path, int issuer, int end) {
            int certificate = made;
            paths[certificate] = path;
            issuers[certificate] = issuer == NONE ? certificate : issuer;
            ends[certificate] = issuer == NONE ? end : Math.min(end, ends[issuer]);
            made++;
            return certificate;
        }

        /** Whether it was not revoked before. */
        boolean markRevoked(int certificate) {
            boolean isNew = !areRevoked[certificate];
            areRevoked[certificate] = true;
            return isNew;
        }

        /** How many are on the list. */
        int publishList(int hour) {
            int listed = 0;
            for (int certificate = 0; certificate < made; certificate++) {
                areListed[certificate] = areRevoked[certificate] && ends[certificate] > hour;
                if (areListed[certificate]) {
                    listed++;
                }
            }
            return listed;
        }

        /** An issuer has a lower number than what it issues, so the chain is no longer than all that were made. */
        boolean isGoodAt(int certificate, int hour) {
            int link = certificate;
            for (int i = 0; i < made; i++) {
                if (ends[link] <= hour || areListed[link]) {
                    return false;
                }
                if (issuers[link] == link) {
                    return true;
                }
                link = issuers[link];
            }
            return true;
        }
    }

    /** The sinks to which requests are told. */
    private static final class Sinks {
        private static final int MODULUS = 65521;
        private static final int REFUSALS_FROM = 60000;

        private final boolean[] areOn = new boolean[SINKS];
        private final boolean[] areBlocking = new boolean[SINKS];
        private final int[] salts = new int[SINKS];
        private final int[] hashes = new int[SINKS];

        Sinks() {
        }

        int hashOf(int sink) {
            return hashes[sink];
        }

        /** Whether it was on. */
        boolean change(int sink, boolean isOn, boolean blocks, int salt) {
            boolean wasOn = areOn[sink];
            areOn[sink] = isOn;
            areBlocking[sink] = blocks;
            salts[sink] = salt;
            return wasOn;
        }

        /** Whether some are on, and none of those takes anything. */
        boolean areAllBlocking() {
            boolean isOneOn = false;
            for (int sink = 0; sink < SINKS; sink++) {
                if (areOn[sink] && !areBlocking[sink]) {
                    return false;
                }
                isOneOn |= areOn[sink];
            }
            return isOneOn;
        }

        void tell(int token, int path, int power, int answer) {
            int told = answer < 0 ? REFUSALS_FROM + answer : answer;
            int request = 7 * token + path + 1000 * numberOf(power);
            for (int sink = 0; sink < SINKS; sink++) {
                if (areOn[sink] && !areBlocking[sink]) {
                    hashes[sink] = (31 * hashes[sink] + request + told * salts[sink]) % MODULUS;
                }
            }
        }

        private static int numberOf(int power) {
            switch (power) {
                case WRITE:
                    return 1;
                case ERASE:
                    return 2;
                case ISSUE:
                    return 3;
                default:
                    return 0;
            }
        }
    }
}
