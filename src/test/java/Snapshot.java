import java.util.Arrays;
import java.util.function.Supplier;

/**
 * What a hall tells of itself, and then of what it keeps to itself: a few calls that change it
 * are made at last, so that a hall can be looked at once alone.
 */
final class Snapshot {
    private static final String[] OF_ONE = {"nameOf", "keyOf", "issuerKeyOf", "lastDayOf",
        "kindOf", "candidates"};
    private static final String[] OF_ONE_ON_A_DAY = {"isRevoked", "isRevokedByLists", "chainSize"};
    private static final String[] OF_ALL = {"day", "walked", "reached", "isThrough", "soundShare",
        "meanChain"};
    private static final int MOST_CERTIFICATES = 40;
    private static final int FEW = 12;

    private Snapshot() {
    }

    /** A call must leave a hall as one of the same making is to which the call is not made. */
    static void unchanged(Supplier<Certhold> making, String untouched, String name,
            Object... arguments) {
        Certhold hall = making.get();
        Calls.answer(hall, name, arguments);
        Calls.same("the hall after " + name + Arrays.toString(arguments), untouched,
                of(hall));
    }

    static String of(Certhold hall) {
        StringBuilder text = new StringBuilder();
        int made = hall.certificates();
        tell(text, hall, made);
        walkOn(text, hall);
        bringToLight(text, hall, made);
        return text.toString();
    }

    private static void tell(StringBuilder text, Certhold hall, int made) {
        ask(text, hall, "certificates");
        for (String each : OF_ALL) {
            ask(text, hall, each);
        }
        ask(text, hall, "rootOf", made);
        ask(text, hall, "rootOf", made + 1);
        for (int number = 0; number < made; number++) {
            for (String each : OF_ONE) {
                ask(text, hall, each, number);
            }
            for (String each : OF_ONE_ON_A_DAY) {
                ask(text, hall, each, number, hall.day());
            }
        }
    }

    private static void walkOn(StringBuilder text, Certhold hall) {
        for (int rank = 1; rank >= 0; rank--) {
            ask(text, hall, "step", rank);
            ask(text, hall, "reached");
            ask(text, hall, "walked");
        }
    }

    /** Marks are seen when a list is published, names and keys in what is issued then. */
    private static void bringToLight(StringBuilder text, Certhold hall, int made) {
        for (int number = 0; number < made && number < FEW; number++) {
            ask(text, hall, "trust", number, true);
            ask(text, hall, "publish", number);
            if (made < FEW) {
                ask(text, hall, "issue", number, 3, 5);
                ask(text, hall, "issue", number, 33, 5);
            }
        }
        for (int number = made; number < hall.certificates(); number++) {
            ask(text, hall, "keyOf", number);
            ask(text, hall, "chainSize", number, hall.day());
        }
        if (made < MOST_CERTIFICATES) {
            int root = hall.makeRoot(1, 1, 0);
            ask(text, hall, "keyOf", root);
            ask(text, hall, "chainSize", root, hall.day());
        }
    }

    private static void ask(StringBuilder text, Certhold hall, String name, Object... arguments) {
        text.append(Calls.answer(hall, name, arguments)).append(' ');
    }
}
