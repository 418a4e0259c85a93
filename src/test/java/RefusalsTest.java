import java.util.ArrayList;
import java.util.Arrays;
import java.util.List;
import java.util.function.Supplier;

/**
 * Promises 2 to 40, each sentence that begins with Throws: the exception that is due for each
 * wrong argument by itself, for each two of them the one that is listed first, and after each of
 * them a hall in which nothing was changed.
 */
public final class RefusalsTest {
    private static final int LEAST = Integer.MIN_VALUE;
    private static final int MOST = Integer.MAX_VALUE;
    private static final int MADE = Halls.SOME;

    private static final Integer[] NO_CERTIFICATES = {-1, MADE, MADE + 1, 39, 40, 41, LEAST, MOST};
    private static final Integer[] NEITHER_NAMES_NOR_0 = {-1, 10, -12, 20, 90, 100, 101, 110, 1000,
        1001, 1011, 1101, 1110, 9099, 9909, 9990, 10000, 11111, 99999, LEAST, MOST};
    private static final Integer[] NO_NAMES = with(0, NEITHER_NAMES_NOR_0);
    private static final Integer[] WRONG_DAYS = {0, -1, LEAST, 1001, MOST, 1000};
    private static final Integer[] WRONG_LENGTHS = {-1, LEAST, 7, MOST, 6};
    private static final Integer[] NEGATIVE = {-1, -2, LEAST};
    private static final Integer[] WRONG_SIZES = {0, -1, LEAST, MADE + 2, 41, MOST, MADE + 1};
    private static final Integer[] OTHER_THAN_AUTHORITIES = {5, 6};
    private static final Integer[] OTHER_THAN_ROOTS = {2, 3, 4, 5, 6, 7, 9, 10};
    private static final Integer[] KEY_HAS_ISSUED = {0, 1, 2, 4, 9, 10};

    private static final State EMPTY = new State(Halls::empty);
    private static final State SOME = new State(Halls::some);
    private static final State FULL = new State(Halls::full);

    /** A hall to begin with, and its snapshot. */
    private static final class State {
        final Supplier<Certhold> making;
        final String untouched;

        State(Supplier<Certhold> making) {
            this.making = making;
            untouched = Snapshot.of(making.get());
        }

        void refuses(String due, String name, Object... arguments) {
            Calls.due(due, making.get(), name, arguments);
            Snapshot.unchanged(making, untouched, name, arguments);
        }
    }

    /** Wrong arguments at their places; null stands for those that are right. */
    private record Fault(String due, Object[] places) {
    }

    /** A call that is right, and what can be wrong about it, in the order of the document. */
    private static final class Call {
        private final String name;
        private final Object[] right;
        private final List<Fault> faults = new ArrayList<>();

        Call(String name, Object... right) {
            this.name = name;
            this.right = right;
        }

        Call wrong(String due, int place, Integer... values) {
            for (Integer value : values) {
                Object[] places = new Object[right.length];
                places[place] = value;
                faults.add(new Fault(due, places));
            }
            return this;
        }

        Call wrongTogether(String due, Object... places) {
            faults.add(new Fault(due, Arrays.copyOf(places, right.length)));
            return this;
        }

        /** In a hall that does what is right. */
        void check() {
            check(SOME);
            Object answer = Calls.answer(Halls.some(), name, right);
            Calls.same(name + " is refused", false, answer.toString().startsWith("throws."));
        }

        /** In a full hall, which refuses what is right, too. */
        void checkFull() {
            check(FULL);
            FULL.refuses(Calls.STATE, name, right);
        }

        private void check(State state) {
            for (int i = 0; i < faults.size(); i++) {
                String due = faults.get(i).due;
                Object[] once = put(right, faults.get(i));
                boolean isMade = state == FULL && names(faults.get(i), MADE, MADE + 1, 39);
                if (!isMade) {
                    state.refuses(due, name, once);
                }
                for (int j = i + 1; j < faults.size() && !isMade; j++) {
                    if (isLastOfItsKind(j) && areApart(faults.get(i), faults.get(j))) {
                        state.refuses(due, name, put(once, faults.get(j)));
                    }
                }
            }
        }

        /** Whether a fault tells a number that a full hall has and another one has not. */
        private boolean names(Fault fault, Object... numbers) {
            return fault.due.equals(Calls.NO_SUCH)
                    && Arrays.stream(fault.places).anyMatch(Arrays.asList(numbers)::contains);
        }

        private boolean isLastOfItsKind(int i) {
            return i + 1 == faults.size() || areApart(faults.get(i), faults.get(i + 1))
                    || !faults.get(i).due.equals(faults.get(i + 1).due);
        }

        private static boolean areApart(Fault one, Fault other) {
            for (int place = 0; place < one.places.length; place++) {
                if (one.places[place] != null && other.places[place] != null) {
                    return false;
                }
            }
            return true;
        }

        private static Object[] put(Object[] arguments, Fault fault) {
            Object[] all = arguments.clone();
            for (int place = 0; place < all.length; place++) {
                all[place] = fault.places[place] == null ? all[place] : fault.places[place];
            }
            return all;
        }
    }

    public static void main(String[] arguments) {
        making();
        cross();
        setNames();
        trust();
        revoking();
        days();
        looking();
        chains();
        walks();
        log();
        proofs();
        means();
        withoutCertificates();
        questionsChangeNothing();
        Calls.end();
    }

    private static Integer[] with(int first, Integer... others) {
        Integer[] all = new Integer[others.length + 1];
        all[0] = first;
        System.arraycopy(others, 0, all, 1, others.length);
        return all;
    }

    /** Promises 2 to 4. */
    private static void making() {
        Call makeRoot = new Call("makeRoot", 7, 5, 2)
                .wrong(Calls.ARGUMENT, 0, NO_NAMES)
                .wrong(Calls.ARGUMENT, 1, WRONG_DAYS)
                .wrong(Calls.ARGUMENT, 2, WRONG_LENGTHS);
        makeRoot.check();
        makeRoot.checkFull();
        Call issue = new Call("issue", 2, 7, 5)
                .wrong(Calls.NO_SUCH, 0, NO_CERTIFICATES)
                .wrong(Calls.ARGUMENT, 1, NO_NAMES)
                .wrong(Calls.ARGUMENT, 2, WRONG_DAYS)
                .wrong(Calls.STATE, 0, OTHER_THAN_AUTHORITIES);
        issue.check();
        issue.checkFull();
        Call issueAuthority = new Call("issueAuthority", 2, 7, 5, 2)
                .wrong(Calls.NO_SUCH, 0, NO_CERTIFICATES)
                .wrong(Calls.ARGUMENT, 1, NO_NAMES)
                .wrong(Calls.ARGUMENT, 2, WRONG_DAYS)
                .wrong(Calls.ARGUMENT, 3, WRONG_LENGTHS)
                .wrong(Calls.STATE, 0, OTHER_THAN_AUTHORITIES);
        issueAuthority.check();
        issueAuthority.checkFull();
    }

    /** Promise 5. */
    private static void cross() {
        Call cross = new Call("cross", 0, 3, 5, 2)
                .wrong(Calls.NO_SUCH, 0, NO_CERTIFICATES)
                .wrong(Calls.NO_SUCH, 1, NO_CERTIFICATES)
                .wrong(Calls.ARGUMENT, 2, WRONG_DAYS)
                .wrong(Calls.ARGUMENT, 3, WRONG_LENGTHS)
                .wrong(Calls.STATE, 0, OTHER_THAN_AUTHORITIES)
                .wrong(Calls.STATE, 1, OTHER_THAN_AUTHORITIES)
                // The key of the issuer, by the same certificate and by another one of the key.
                .wrongTogether(Calls.STATE, 0, 0)
                .wrongTogether(Calls.STATE, 3, 3)
                .wrongTogether(Calls.STATE, 2, 4)
                .wrongTogether(Calls.STATE, 4, 2)
                // Three certificates have the key of each of these.
                .wrong(Calls.STATE, 1, 1, 9, 10);
        cross.check();
        cross.checkFull();
    }

    /** Promise 6. */
    private static void setNames() {
        Call setNames = new Call("setNames", 8, 5, 55)
                .wrong(Calls.NO_SUCH, 0, NO_CERTIFICATES)
                .wrong(Calls.ARGUMENT, 1, NEITHER_NAMES_NOR_0)
                .wrong(Calls.ARGUMENT, 2, NEITHER_NAMES_NOR_0)
                .wrong(Calls.STATE, 0, OTHER_THAN_AUTHORITIES)
                .wrong(Calls.STATE, 0, KEY_HAS_ISSUED);
        setNames.check();
        for (int number : KEY_HAS_ISSUED) {
            SOME.refuses(Calls.STATE, "setNames", number, 0, 0);
        }
        // A full hall refuses no more of these, and no fewer.
        Calls.due(2, Halls.full(), "setNames", 8, 5, 55);
        FULL.refuses(Calls.STATE, "setNames", 0, 5, 0);
    }

    /** Promise 7. */
    private static void trust() {
        for (boolean isTrusted : new boolean[] {true, false}) {
            new Call("trust", 8, isTrusted)
                    .wrong(Calls.NO_SUCH, 0, NO_CERTIFICATES)
                    .wrong(Calls.STATE, 0, OTHER_THAN_ROOTS)
                    .check();
        }
    }

    /** Promises 8 and 9. */
    private static void revoking() {
        new Call("revoke", 7)
                .wrong(Calls.NO_SUCH, 0, NO_CERTIFICATES)
                // Roots, then one that is marked, and one whose revocation has taken effect.
                .wrong(Calls.STATE, 0, 0, 1, 8)
                .wrong(Calls.STATE, 0, 5, 6)
                .check();
        new Call("publish", 3)
                .wrong(Calls.NO_SUCH, 0, NO_CERTIFICATES)
                .wrong(Calls.STATE, 0, OTHER_THAN_AUTHORITIES)
                .check();
    }

    /** Promise 10. */
    private static void days() {
        new Call("pass", 5).wrong(Calls.ARGUMENT, 0, WRONG_DAYS).check();
    }

    /** Promises 13 to 22. */
    private static void looking() {
        for (String name : new String[] {"nameOf", "keyOf", "issuerKeyOf", "lastDayOf", "kindOf",
            "candidates"}) {
            new Call(name, 2).wrong(Calls.NO_SUCH, 0, NO_CERTIFICATES).check();
            FULL.refuses(Calls.NO_SUCH, name, 40);
        }
        new Call("isBelow", 12, 1)
                .wrong(Calls.ARGUMENT, 0, NO_NAMES)
                .wrong(Calls.ARGUMENT, 1, NO_NAMES)
                .check();
        for (String name : new String[] {"isRevoked", "isRevokedByLists"}) {
            new Call(name, 6, 3)
                    .wrong(Calls.NO_SUCH, 0, NO_CERTIFICATES)
                    .wrong(Calls.ARGUMENT, 1, NEGATIVE)
                    .check();
        }
        new Call("candidateAt", 5, 1)
                .wrong(Calls.NO_SUCH, 0, NO_CERTIFICATES)
                .wrong(Calls.INDEX, 1, -1, LEAST, 3, MOST, 2)
                .wrongTogether(Calls.INDEX, 8, 0)
                .check();
    }

    /** Promises 23 to 26. */
    private static void chains() {
        for (String name : new String[] {"chainSize", "goodChains", "goodChainsByWalks"}) {
            new Call(name, 7, 3)
                    .wrong(Calls.NO_SUCH, 0, NO_CERTIFICATES)
                    .wrong(Calls.ARGUMENT, 1, NEGATIVE)
                    .check();
        }
        new Call("chainAt", 7, 3, 2)
                .wrong(Calls.NO_SUCH, 0, NO_CERTIFICATES)
                .wrong(Calls.ARGUMENT, 1, NEGATIVE)
                .wrong(Calls.INDEX, 2, -1, LEAST, 4, 7, MOST, 3)
                // There is no best chain: it is revoked, the root is not trusted, not valid yet.
                .wrongTogether(Calls.INDEX, 6, 3, 0)
                .wrongTogether(Calls.INDEX, 8, 3, 0)
                .wrongTogether(Calls.INDEX, 7, 20, 0)
                .check();
    }

    /** Promises 27 to 29. */
    private static void walks() {
        new Call("begin", 7, 3)
                .wrong(Calls.NO_SUCH, 0, NO_CERTIFICATES)
                .wrong(Calls.ARGUMENT, 1, NEGATIVE)
                .check();
        new Call("step", 0).wrong(Calls.INDEX, 0, -1, LEAST, 2, MOST, 1).check();
        // Without a walk each rank is refused for that.
        for (int rank : new int[] {0, 1, -1, LEAST, MOST}) {
            EMPTY.refuses(Calls.STATE, "step", rank);
        }
        EMPTY.refuses(Calls.STATE, "reached");
        Certhold hall = new Certhold();
        hall.makeRoot(1, 1, 0);
        hall.issue(0, 1, 1);
        Calls.due('t', hall, "begin", 1, 1);
        Calls.due(Calls.STATE, hall, "step", 0);
        Calls.due(Calls.STATE, hall, "step", 1);
        Calls.due(Calls.STATE, hall, "reached");
    }

    /** Promises 32 and 33. */
    private static void log() {
        for (String name : new String[] {"rootOf", "rootByJoining"}) {
            new Call(name, MADE).wrong(Calls.ARGUMENT, 0, WRONG_SIZES).check();
            EMPTY.refuses(Calls.ARGUMENT, name, 0);
            EMPTY.refuses(Calls.ARGUMENT, name, 1);
            FULL.refuses(Calls.ARGUMENT, name, 41);
            FULL.refuses(Calls.ARGUMENT, name, 0);
        }
    }

    /** Promises 34 to 38. */
    private static void proofs() {
        Integer[] noEntries = {-1, LEAST, MADE + 1, 40, MOST, MADE};
        for (String name : new String[] {"proofSize", "rootByProof"}) {
            new Call(name, 3, MADE)
                    .wrong(Calls.ARGUMENT, 1, WRONG_SIZES)
                    .wrong(Calls.INDEX, 0, noEntries)
                    // An entry that is there, but not in the log of this size.
                    .wrongTogether(Calls.INDEX, 5, 5)
                    .check();
        }
        new Call("proofAt", 3, MADE, 3)
                .wrong(Calls.ARGUMENT, 1, WRONG_SIZES)
                .wrong(Calls.INDEX, 0, noEntries)
                .wrong(Calls.INDEX, 2, -1, LEAST, 5, MOST, 4)
                .wrongTogether(Calls.INDEX, 5, 5, 0)
                .wrongTogether(Calls.INDEX, 0, 1, 0)
                .check();
        Integer[] noSmaller = {0, -1, LEAST, MADE + 2, MOST, MADE + 1};
        new Call("growthSize", 3, MADE)
                .wrong(Calls.ARGUMENT, 1, WRONG_SIZES)
                .wrong(Calls.INDEX, 0, noSmaller)
                .wrongTogether(Calls.INDEX, 6, 5)
                .check();
        new Call("growthAt", 3, MADE, 4)
                .wrong(Calls.ARGUMENT, 1, WRONG_SIZES)
                .wrong(Calls.INDEX, 0, noSmaller)
                .wrong(Calls.INDEX, 2, -1, LEAST, 6, MOST, 5)
                .wrongTogether(Calls.INDEX, 6, 5, 0)
                .wrongTogether(Calls.INDEX, 5, 5, 0)
                .check();
    }

    /** Promises 39 and 40. */
    private static void means() {
        EMPTY.refuses(Calls.ARITHMETIC, "soundShare");
        EMPTY.refuses(Calls.ARITHMETIC, "meanChain");
        State chainless = new State(RefusalsTest::chainless);
        chainless.refuses(Calls.ARITHMETIC, "meanChain");
    }

    private static Certhold chainless() {
        Certhold hall = Halls.some();
        hall.trust(0, false);
        hall.trust(1, false);
        return hall;
    }

    /** Promise 1: a hall without certificates refuses whatever wants one, and for nothing else. */
    private static void withoutCertificates() {
        Object[][] calls = {
            {"issue", 0, 0, 0}, {"issue", 0, 1, 1}, {"issueAuthority", 0, 0, 0, -1},
            {"issueAuthority", 0, 1, 1, 1}, {"cross", 0, 0, 0, -1}, {"cross", 0, 0, 1, 1},
            {"setNames", 0, -1, -1}, {"setNames", 0, 0, 0}, {"trust", 0, true}, {"revoke", 0},
            {"publish", 0}, {"nameOf", 0}, {"keyOf", 0}, {"issuerKeyOf", 0}, {"lastDayOf", 0},
            {"kindOf", 0}, {"isRevoked", 0, 0}, {"isRevokedByLists", 0, -1}, {"candidates", 0},
            {"candidateAt", 0, 0}, {"candidateAt", 0, -1}, {"chainSize", 0, 0},
            {"chainAt", 0, -1, -1}, {"goodChains", 0, 0}, {"goodChainsByWalks", 0, -1},
            {"begin", 0, 0}, {"begin", 0, -1},
        };
        for (Object[] call : calls) {
            EMPTY.refuses(Calls.NO_SUCH, (String) call[0], arguments(call));
        }
        Object[][] ofTheLog = {
            {"rootOf", 1}, {"rootByJoining", 1}, {"proofSize", 0, 1}, {"proofAt", 0, 1, 0},
            {"proofSize", -1, 0}, {"rootByProof", 0, 1}, {"rootByProof", 0, 0},
            {"growthSize", 1, 1}, {"growthSize", 0, 0}, {"growthAt", 1, 1, 0},
        };
        for (Object[] call : ofTheLog) {
            EMPTY.refuses(Calls.ARGUMENT, (String) call[0], arguments(call));
        }
    }

    /** What returns something, and is not said to do anything, leaves the hall as it is. */
    private static void questionsChangeNothing() {
        Object[][] calls = {
            {"day"}, {"certificates"}, {"nameOf", 2}, {"keyOf", 2}, {"issuerKeyOf", 2},
            {"lastDayOf", 2}, {"kindOf", 2}, {"isBelow", 12, 1}, {"isRevoked", 6, 3},
            {"isRevokedByLists", 6, 3}, {"candidates", 5}, {"candidateAt", 5, 1},
            {"chainSize", 7, 3}, {"chainSize", 0, 9}, {"chainAt", 7, 3, 2}, {"goodChains", 7, 3},
            {"goodChains", 5, 9}, {"goodChainsByWalks", 7, 3}, {"goodChainsByWalks", 5, 9},
            {"reached"}, {"walked"}, {"isThrough"}, {"rootOf", 5}, {"rootByJoining", 5},
            {"proofSize", 2, 5}, {"proofAt", 2, 5, 1}, {"rootByProof", 2, 5},
            {"growthSize", 2, 5}, {"growthAt", 2, 5, 0}, {"soundShare"}, {"meanChain"},
        };
        for (Object[] call : calls) {
            Snapshot.unchanged(SOME.making, SOME.untouched, (String) call[0], arguments(call));
        }
    }

    private static Object[] arguments(Object[] call) {
        return Arrays.copyOfRange(call, 1, call.length);
    }
}
