/** Promises 8 to 11, 19 and 20: revocations, lists and days. */
public final class RevokingTest {
    public static void main(String[] arguments) {
        revoke();
        publish();
        listsOfOneKey();
        days();
        manyLists();
        Calls.end();
    }

    private static Certhold hall() {
        Certhold hall = new Certhold();
        hall.makeRoot(1, 99, 5);
        hall.makeRoot(2, 99, 5);
        hall.issueAuthority(0, 12, 99, 5);
        hall.issue(0, 13, 99);
        hall.issue(2, 123, 99);
        hall.cross(1, 2, 99, 5);
        return hall;
    }

    private static void revoke() {
        Certhold hall = hall();
        Calls.due(Calls.NO_SUCH, hall, "revoke", 6);
        Calls.due(Calls.NO_SUCH, hall, "revoke", -1);
        Calls.due(Calls.STATE, hall, "revoke", 0);
        Calls.due(Calls.STATE, hall, "revoke", 1);
        Calls.due(1, hall, "revoke", 2);
        Calls.due(Calls.STATE, hall, "revoke", 2);
        Calls.due(2, hall, "revoke", 3);
        Calls.due(1, hall, "revoke", 4);
        Calls.due(1, hall, "revoke", 5);
        Calls.due(false, hall, "isRevoked", 2, 0);
        Calls.due(false, hall, "isRevokedByLists", 2, 0);
        Calls.due(2, hall, "publish", 0);
        Calls.due(Calls.STATE, hall, "revoke", 2);
        Calls.due(6, hall, "issue", 0, 1, 99);
        // What took effect is counted no more.
        Calls.due(1, hall, "revoke", 6);
    }

    private static void publish() {
        Certhold hall = hall();
        Calls.due(Calls.NO_SUCH, hall, "publish", 6);
        Calls.due(Calls.NO_SUCH, hall, "publish", -1);
        Calls.due(Calls.STATE, hall, "publish", 3);
        Calls.due(0, hall, "publish", 0);
        hall.pass(3);
        Calls.due(1, hall, "revoke", 3);
        Calls.due(0, hall, "publish", 1);
        Calls.due(0, hall, "publish", 2);
        hall.pass(3);
        Calls.due(1, hall, "publish", 0);
        for (String way : new String[] {"isRevoked", "isRevokedByLists"}) {
            Calls.due(false, hall, way, 3, 0);
            Calls.due(false, hall, way, 3, 5);
            Calls.due(true, hall, way, 3, 6);
            Calls.due(true, hall, way, 3, 7);
            Calls.due(true, hall, way, 3, Integer.MAX_VALUE);
            Calls.due(false, hall, way, 2, 6);
            Calls.due(false, hall, way, 0, 6);
            Calls.due(Calls.NO_SUCH, hall, way, 6, -1);
            Calls.due(Calls.NO_SUCH, hall, way, -1, 0);
            Calls.due(Calls.ARGUMENT, hall, way, 3, -1);
            Calls.due(Calls.ARGUMENT, hall, way, 0, Integer.MIN_VALUE);
        }
        hall.pass(3);
        // A later list leaves the day on which the first one took effect.
        Calls.due(1, hall, "revoke", 2);
        Calls.due(1, hall, "publish", 0);
        Calls.due(0, hall, "publish", 0);
        for (String way : new String[] {"isRevoked", "isRevokedByLists"}) {
            Calls.due(true, hall, way, 3, 6);
            Calls.due(false, hall, way, 2, 8);
            Calls.due(true, hall, way, 2, 9);
            Calls.due(false, hall, way, 5, 9);
        }
    }

    private static void listsOfOneKey() {
        Certhold hall = hall();
        hall.issue(5, 124, 99);
        Calls.due(1, hall, "revoke", 4);
        Calls.due(2, hall, "revoke", 6);
        // The crossed certificate has the same name and key as the issued one.
        Calls.due(2, hall, "publish", 5);
        Calls.due(0, hall, "publish", 2);
        Calls.due(true, hall, "isRevoked", 4, 0);
        Calls.due(true, hall, "isRevokedByLists", 6, 0);
        Calls.due(1, hall, "revoke", 5);
        // An issuer that is revoked itself, or not valid any more, still publishes.
        Calls.due(1, hall, "publish", 1);
        hall.pass(500);
        hall.issue(2, 125, 1);
        Calls.due(1, hall, "revoke", 7);
        Calls.due(1, hall, "publish", 5);
        Calls.due(true, hall, "isRevoked", 7, 500);
        Calls.due(false, hall, "isRevokedByLists", 7, 499);
    }

    private static void days() {
        Certhold hall = new Certhold();
        Calls.due(0, hall, "day");
        Calls.due(Calls.ARGUMENT, hall, "pass", 0);
        Calls.due(Calls.ARGUMENT, hall, "pass", -1);
        Calls.due(Calls.ARGUMENT, hall, "pass", 1000);
        Calls.due(Calls.ARGUMENT, hall, "pass", Integer.MIN_VALUE);
        Calls.due(Calls.ARGUMENT, hall, "pass", Integer.MAX_VALUE);
        Calls.due(0, hall, "day");
        Calls.due(1, hall, "pass", 1);
        Calls.due(1000, hall, "pass", 999);
        Calls.due(1000, hall, "day");
        Calls.due(1002, hall, "pass", 2);
        Calls.due(1002, hall, "day");
    }

    private static void manyLists() {
        Certhold hall = new Certhold();
        hall.makeRoot(1, 999, 5);
        for (int number = 1; number < 40; number++) {
            hall.issue(0, 1, 999);
        }
        for (int round = 0; round < 60; round++) {
            Calls.due(0, hall, "publish", 0);
        }
        for (int number = 1; number < 40; number++) {
            Calls.due(1, hall, "revoke", number);
            Calls.due(1, hall, "publish", 0);
            Calls.due(number, hall, "pass", 1);
        }
        for (int number = 1; number < 40; number++) {
            Calls.due(true, hall, "isRevoked", number, number - 1);
            Calls.due(true, hall, "isRevokedByLists", number, number - 1);
            if (number > 1) {
                Calls.due(false, hall, "isRevoked", number, number - 2);
                Calls.due(false, hall, "isRevokedByLists", number, number - 2);
            }
        }
    }
}
