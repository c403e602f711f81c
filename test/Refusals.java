import java.util.Set;
import java.util.TreeSet;

/** What a call may not have changed, by its name and its answer. */
final class Refusals {
    private static final Set<String> ONLY_TELLING = Set.of("share", "isOpen", "key", "uses", "lives", "may", "keyOf", "stateOf", "endOf",
        "credentials", "credentialsAnew", "cases", "isGood", "issuerOf", "hash", "farRead");
    private static final Set<String> REQUESTS = Set.of("read", "write", "erase", "issue", "wrap", "approve", "takeUp", "certify");

    private Refusals() {
    }

    /** Null if nothing is wrong. */
    static String fault(String call, String answer, State before, State after) {
        boolean isRefused = answer.startsWith("throws ") || answer.matches("-\\d+") && Integer.parseInt(answer) < SealwrightVault.NONE;
        if (!isRefused && !ONLY_TELLING.contains(call)) {
            return null;
        }
        Set<String> changed = new TreeSet<>(before.differences(after));
        changed.removeAll(mayChange(call, answer));
        return changed.isEmpty() ? null : "but it changed " + changed;
    }

    /** A request that is refused is a use all the same, may be the last one, counts for the quota, and is told to the sinks. */
    private static Set<String> mayChange(String call, String answer) {
        if (!REQUESTS.contains(call) || answer.startsWith("throws ")) {
            return Set.of();
        }
        switch (Integer.parseInt(answer)) {
            case SealwrightVault.SEALED:
            case SealwrightVault.BLOCKED:
                return Set.of();
            case SealwrightVault.BAD_TOKEN:
                // At these two it may be told of the case as well, behind all that counts.
                return call.equals("approve") || call.equals("takeUp") ? Set.of("sinks", "tokens", "leases", "engines") : Set.of("sinks");
            case SealwrightVault.TOO_MANY:
                return Set.of("sinks", "tokens", "leases");
            case SealwrightVault.PENDING:
                return call.equals("takeUp") ? Set.of("sinks", "tokens", "leases", "engines") : Set.of("sinks", "tokens", "leases", "engines", "keptReads");
            default:
                return Set.of("sinks", "tokens", "leases", "engines");
        }
    }
}
