import java.util.ArrayList;
import java.util.Arrays;
import java.util.List;

/** Promises 1 to 40: long runs of mixed calls, each answer held against ReferenceHall. */
public final class RandomRunsTest {
    private static final int RUNS = 240;
    private static final int CALLS = 512;

    /**
     * A method, how often it is called, and a letter for each argument: c certificate, n name,
     * m name or 0, d days, p days that pass, l length, b boolean, y day, r rank, s size,
     * e entry, g smaller size.
     */
    private record Kind(String name, int weight, String letters) {
    }

    private static final List<Kind> KINDS = List.of(
            new Kind("makeRoot", 5, "ndl"), new Kind("issue", 6, "cnd"),
            new Kind("issueAuthority", 8, "cndl"), new Kind("cross", 16, "ccdl"),
            new Kind("setNames", 6, "cmm"), new Kind("trust", 5, "cb"),
            new Kind("revoke", 3, "c"), new Kind("publish", 3, "c"), new Kind("pass", 2, "p"),
            new Kind("day", 1, ""), new Kind("certificates", 1, ""), new Kind("nameOf", 1, "c"),
            new Kind("keyOf", 1, "c"), new Kind("issuerKeyOf", 1, "c"),
            new Kind("lastDayOf", 1, "c"), new Kind("kindOf", 1, "c"),
            new Kind("isBelow", 2, "nn"), new Kind("isRevoked", 3, "cy"),
            new Kind("isRevokedByLists", 3, "cy"), new Kind("candidates", 2, "c"),
            new Kind("candidateAt", 3, "cr"), new Kind("chainSize", 4, "cy"),
            new Kind("chainAt", 5, "cyr"), new Kind("goodChains", 4, "cy"),
            new Kind("goodChainsByWalks", 4, "cy"), new Kind("begin", 4, "cy"),
            new Kind("step", 14, "r"), new Kind("reached", 2, ""), new Kind("walked", 1, ""),
            new Kind("isThrough", 2, ""), new Kind("rootOf", 1, "s"),
            new Kind("rootByJoining", 1, "s"), new Kind("proofSize", 1, "es"),
            new Kind("proofAt", 2, "esr"), new Kind("rootByProof", 2, "es"),
            new Kind("growthSize", 1, "gs"), new Kind("growthAt", 2, "gsr"),
            new Kind("soundShare", 1, ""), new Kind("meanChain", 1, ""));

    private static final int[] NAMES = {1, 2, 11, 12, 111, 112, 121, 1112, 9, 1, 11, 1};
    private static final int[] WRONG = {-1, 0, 10, 40, 41, 999, 1000, 10000, 99999,
        Integer.MIN_VALUE, Integer.MAX_VALUE, Integer.MIN_VALUE + 1, Integer.MAX_VALUE - 1};

    private static long seed;

    public static void main(String[] arguments) {
        List<Kind> choices = new ArrayList<>();
        for (Kind kind : KINDS) {
            for (int i = 0; i < kind.weight; i++) {
                choices.add(kind);
            }
        }
        for (int run = 0; run < RUNS; run++) {
            seed = 1000L + run;
            run(run, choices);
        }
        Calls.end();
    }

    private static void run(int run, List<Kind> choices) {
        Certhold hall = new Certhold();
        ReferenceHall reference = new ReferenceHall();
        // Some runs have wide names and long days throughout, so that many chains are good.
        boolean isMild = run % 2 == 0;
        int calls = 0;
        for (int call = 0; call < 4 * CALLS && calls < CALLS; call++) {
            Kind kind = choices.get(below(choices.size()));
            if (isMaking(kind) && reference.certificates() == 40 && below(12) > 0) {
                continue;
            }
            calls++;
            Object[] given = new Object[kind.letters.length()];
            for (int i = 0; i < given.length; i++) {
                given[i] = argument(kind.letters.charAt(i), reference, isMild);
            }
            String what = "run " + run + ", call " + calls + ": " + kind.name
                    + Arrays.toString(given);
            Calls.same(what, Calls.answer(reference, kind.name, given),
                    Calls.answer(hall, kind.name, given));
        }
    }

    private static boolean isMaking(Kind kind) {
        return List.of("makeRoot", "issue", "issueAuthority", "cross", "setNames", "trust")
                .contains(kind.name);
    }

    private static Object argument(char letter, ReferenceHall reference, boolean isMild) {
        int made = reference.certificates();
        if (letter == 'b') {
            return below(4) > 0;
        }
        if (below(40) == 0) {
            return WRONG[below(WRONG.length)];
        }
        switch (letter) {
            case 'c':
                return below(10) == 0 ? below(made + 1) : below(Math.max(1, made));
            case 'n':
                return isMild && below(4) > 0 ? 1 : NAMES[below(NAMES.length)];
            case 'm':
                return below(isMild ? 4 : 2) > 0 ? 0 : NAMES[below(NAMES.length)];
            case 'd':
                return isMild ? 1 + below(999) : 1 + below(40);
            case 'p':
                return 1 + below(isMild ? 9 : 3);
            case 'l':
                return isMild ? 5 - below(2) : below(6);
            case 'y':
                return below(3) > 0 ? reference.day() : below(reference.day() + 12);
            case 'r':
                return below(4) > 0 ? below(2) : below(9) - 1;
            case 's':
                return 1 + below(Math.max(1, made));
            case 'e':
                return below(Math.max(1, made));
            default:
                return 1 + below(Math.max(1, made));
        }
    }

    private static int below(int bound) {
        seed = seed * 6364136223846793005L + 1442695040888963407L;
        return (int) ((seed >>> 33) % bound);
    }
}
