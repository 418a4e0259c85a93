/** Promises 1 to 7: a new hall, making certificates, their names and the trust in roots. */
public final class MakingTest {
    private static final int LEAST = Integer.MIN_VALUE;
    private static final int MOST = Integer.MAX_VALUE;

    public static void main(String[] arguments) {
        newHall();
        makeRoot();
        issue();
        issueAuthority();
        cross();
        crossedMoreThanOnce();
        fullHall();
        setNames();
        namesOfACrossedOne();
        trust();
        Calls.end();
    }

    private static void newHall() {
        Certhold hall = new Certhold();
        Calls.due(0, hall, "certificates");
        Calls.due(0, hall, "day");
        Calls.due(0, hall, "walked");
        Calls.due(false, hall, "isThrough");
        Calls.due(Calls.NO_SUCH, hall, "nameOf", 0);
        Calls.due(Calls.STATE, hall, "reached");
        Calls.due(Calls.ARGUMENT, hall, "rootOf", 1);
        // Halls have nothing in common.
        Certhold other = new Certhold();
        Calls.due(0, other, "makeRoot", 1, 1, 0);
        Calls.due(0, hall, "certificates");
    }

    private static void makeRoot() {
        Certhold hall = new Certhold();
        for (int name : new int[] {0, -1, LEAST, 10, 101, 1001, 1010, 9990, 10000, 11111, MOST}) {
            Calls.due(Calls.ARGUMENT, hall, "makeRoot", name, 5, 2);
        }
        for (int days : new int[] {0, -1, LEAST, 1000, MOST}) {
            Calls.due(Calls.ARGUMENT, hall, "makeRoot", 5, days, 2);
        }
        for (int length : new int[] {-1, LEAST, 6, MOST}) {
            Calls.due(Calls.ARGUMENT, hall, "makeRoot", 5, 5, length);
        }
        Calls.due(0, hall, "certificates");
        Calls.due(0, hall, "makeRoot", 1, 1, 0);
        Calls.due(1, hall, "makeRoot", 9999, 999, 5);
        Calls.due(2, hall, "makeRoot", 1, 7, 3);
        Calls.due(3, hall, "certificates");
        Calls.due('r', hall, "kindOf", 2);
        Calls.due(9999, hall, "nameOf", 1);
        Calls.due(1, hall, "keyOf", 0);
        Calls.due(2, hall, "keyOf", 1);
        Calls.due(3, hall, "keyOf", 2);
        Calls.due(3, hall, "issuerKeyOf", 2);
        Calls.due(0, hall, "lastDayOf", 0);
        Calls.due(998, hall, "lastDayOf", 1);
        // It is not trusted, and has no names that would bind it.
        Calls.due(0, hall, "chainSize", 1, 0);
        Calls.due(0, hall, "goodChains", 1, 0);
        hall.pass(3);
        Calls.due(3, hall, "makeRoot", 2, 4, 0);
        Calls.due(6, hall, "lastDayOf", 3);
        Calls.due('t', hall, "begin", 3, 2);
        Calls.due('o', hall, "begin", 3, 3);
        Calls.due('o', hall, "begin", 3, 6);
        Calls.due('t', hall, "begin", 3, 7);
    }

    private static void issue() {
        Certhold hall = new Certhold();
        Calls.due(Calls.NO_SUCH, hall, "issue", 0, 0, 0);
        hall.makeRoot(1, 5, 0);
        Calls.due(Calls.NO_SUCH, hall, "issue", -1, 1, 1);
        Calls.due(Calls.NO_SUCH, hall, "issue", 1, 0, 0);
        Calls.due(Calls.NO_SUCH, hall, "issue", 40, 1, 1);
        Calls.due(Calls.NO_SUCH, hall, "issue", LEAST, 1, 1);
        Calls.due(Calls.NO_SUCH, hall, "issue", MOST, 1, 1);
        Calls.due(Calls.ARGUMENT, hall, "issue", 0, 20, 1);
        Calls.due(Calls.ARGUMENT, hall, "issue", 0, 2, 0);
        Calls.due(Calls.ARGUMENT, hall, "issue", 0, 2, 1000);
        hall.pass(10);
        // The issuer need be neither valid nor above the name.
        Calls.due(1, hall, "issue", 0, 2, 999);
        Calls.due('e', hall, "kindOf", 1);
        Calls.due(2, hall, "nameOf", 1);
        Calls.due(2, hall, "keyOf", 1);
        Calls.due(1, hall, "issuerKeyOf", 1);
        Calls.due(1008, hall, "lastDayOf", 1);
        Calls.due(Calls.STATE, hall, "issue", 1, 2, 1);
        Calls.due(Calls.ARGUMENT, hall, "issue", 1, 10, 1);
        Calls.due(Calls.ARGUMENT, hall, "issue", 1, 2, 0);
        Calls.due(2, hall, "certificates");
        // What was refused took no key.
        Calls.due(2, hall, "issue", 0, 2, 1);
        Calls.due(3, hall, "keyOf", 2);
        Calls.due(10, hall, "lastDayOf", 2);
    }

    private static void issueAuthority() {
        Certhold hall = new Certhold();
        hall.makeRoot(1, 5, 0);
        Calls.due(Calls.NO_SUCH, hall, "issueAuthority", 1, 0, 0, 9);
        Calls.due(Calls.NO_SUCH, hall, "issueAuthority", -1, 1, 1, 1);
        Calls.due(Calls.ARGUMENT, hall, "issueAuthority", 0, 303, 1, 1);
        Calls.due(Calls.ARGUMENT, hall, "issueAuthority", 0, 3, 0, 1);
        Calls.due(Calls.ARGUMENT, hall, "issueAuthority", 0, 3, 1000, 1);
        Calls.due(Calls.ARGUMENT, hall, "issueAuthority", 0, 3, 1, -1);
        Calls.due(Calls.ARGUMENT, hall, "issueAuthority", 0, 3, 1, 6);
        Calls.due(1, hall, "issueAuthority", 0, 3, 1, 0);
        Calls.due(2, hall, "issueAuthority", 1, 34, 2, 5);
        Calls.due(3, hall, "issue", 2, 345, 2);
        Calls.due('a', hall, "kindOf", 1);
        Calls.due('a', hall, "kindOf", 2);
        Calls.due(2, hall, "keyOf", 1);
        Calls.due(3, hall, "keyOf", 2);
        Calls.due(2, hall, "issuerKeyOf", 2);
        Calls.due(34, hall, "nameOf", 2);
        Calls.due(1, hall, "lastDayOf", 2);
        Calls.due(Calls.STATE, hall, "issueAuthority", 3, 3, 1, 1);
        Calls.due(Calls.ARGUMENT, hall, "issueAuthority", 3, 3, 1, 6);
        Calls.due(4, hall, "certificates");
    }

    private static void cross() {
        Certhold hall = new Certhold();
        hall.makeRoot(1, 9, 5);
        hall.makeRoot(2, 9, 5);
        hall.issueAuthority(0, 12, 9, 5);
        hall.issue(0, 13, 9);
        Calls.due(Calls.NO_SUCH, hall, "cross", 0, 4, 0, 9);
        Calls.due(Calls.NO_SUCH, hall, "cross", 4, 0, 1, 1);
        Calls.due(Calls.NO_SUCH, hall, "cross", -1, 0, 1, 1);
        Calls.due(Calls.NO_SUCH, hall, "cross", 0, -1, 1, 1);
        Calls.due(Calls.ARGUMENT, hall, "cross", 3, 3, 0, 1);
        Calls.due(Calls.ARGUMENT, hall, "cross", 3, 3, 1, 6);
        Calls.due(Calls.ARGUMENT, hall, "cross", 1, 2, 1000, 1);
        Calls.due(Calls.ARGUMENT, hall, "cross", 1, 2, 1, 6);
        Calls.due(Calls.ARGUMENT, hall, "cross", 1, 2, 1, -1);
        Calls.due(Calls.STATE, hall, "cross", 3, 2, 1, 1);
        Calls.due(Calls.STATE, hall, "cross", 1, 3, 1, 1);
        Calls.due(Calls.STATE, hall, "cross", 2, 2, 1, 1);
        Calls.due(Calls.STATE, hall, "cross", 0, 0, 1, 1);
        hall.pass(4);
        Calls.due(4, hall, "cross", 1, 2, 3, 1);
        Calls.due('a', hall, "kindOf", 4);
        Calls.due(12, hall, "nameOf", 4);
        Calls.due(3, hall, "keyOf", 4);
        Calls.due(2, hall, "issuerKeyOf", 4);
        Calls.due(6, hall, "lastDayOf", 4);
        Calls.due(Calls.STATE, hall, "cross", 4, 2, 1, 1);
        Calls.due(Calls.STATE, hall, "cross", 2, 4, 1, 1);
        // A crossed certificate takes no key of its own.
        Calls.due(5, hall, "makeRoot", 3, 1, 1);
        Calls.due(5, hall, "keyOf", 5);
    }

    private static void crossedMoreThanOnce() {
        Certhold hall = new Certhold();
        hall.makeRoot(1, 9, 5);
        hall.makeRoot(2, 9, 5);
        Calls.due(2, hall, "cross", 1, 0, 1, 1);
        Calls.due('a', hall, "kindOf", 2);
        // The same issuer again, for the certificate that was crossed.
        Calls.due(3, hall, "cross", 1, 2, 1, 1);
        Calls.due(Calls.STATE, hall, "cross", 1, 0, 1, 1);
        Calls.due(Calls.STATE, hall, "cross", 1, 3, 1, 1);
        Calls.due(4, hall, "cross", 2, 1, 1, 1);
        Calls.due(1, hall, "issuerKeyOf", 4);
        Calls.due(2, hall, "keyOf", 4);
        Calls.due(5, hall, "certificates");
    }

    private static void fullHall() {
        Certhold hall = new Certhold();
        hall.makeRoot(1, 9, 5);
        hall.issueAuthority(0, 11, 9, 5);
        for (int number = 2; number < 39; number++) {
            hall.issue(1, 111, 9);
        }
        Calls.due(39, hall, "makeRoot", 2, 9, 5);
        Calls.due(40, hall, "certificates");
        Calls.due(Calls.STATE, hall, "makeRoot", 1, 9, 5);
        Calls.due(Calls.ARGUMENT, hall, "makeRoot", 0, 9, 5);
        Calls.due(Calls.ARGUMENT, hall, "makeRoot", 1, 0, 5);
        Calls.due(Calls.ARGUMENT, hall, "makeRoot", 1, 9, 6);
        Calls.due(Calls.STATE, hall, "issue", 0, 1, 9);
        Calls.due(Calls.NO_SUCH, hall, "issue", 40, 1, 9);
        Calls.due(Calls.ARGUMENT, hall, "issue", 0, 0, 9);
        Calls.due(Calls.STATE, hall, "issueAuthority", 0, 1, 9, 0);
        Calls.due(Calls.ARGUMENT, hall, "issueAuthority", 0, 1, 9, 6);
        Calls.due(Calls.STATE, hall, "cross", 39, 1, 9, 0);
        Calls.due(Calls.ARGUMENT, hall, "cross", 39, 1, 0, 0);
        Calls.due(40, hall, "certificates");
        Calls.due(40, hall, "keyOf", 39);
    }

    private static void setNames() {
        Certhold hall = new Certhold();
        hall.makeRoot(1, 9, 5);
        hall.makeRoot(1, 9, 5);
        Calls.due(Calls.NO_SUCH, hall, "setNames", 2, 10, 0);
        Calls.due(Calls.NO_SUCH, hall, "setNames", -1, 1, 0);
        Calls.due(Calls.ARGUMENT, hall, "setNames", 0, 10, 0);
        Calls.due(Calls.ARGUMENT, hall, "setNames", 0, 0, 10);
        Calls.due(Calls.ARGUMENT, hall, "setNames", 0, -1, 1);
        Calls.due(Calls.ARGUMENT, hall, "setNames", 0, 1, 12345);
        Calls.due(0, hall, "setNames", 0, 0, 0);
        Calls.due(1, hall, "setNames", 0, 2, 0);
        Calls.due(1, hall, "setNames", 0, 0, 2);
        Calls.due(2, hall, "setNames", 0, 2, 21);
        Calls.due(2, hall, "setNames", 0, 3, 3);
        Calls.due(1, hall, "setNames", 0, 1, 0);
        Calls.due(2, hall, "issueAuthority", 0, 12, 9, 5);
        Calls.due(Calls.STATE, hall, "setNames", 0, 2, 0);
        Calls.due(Calls.ARGUMENT, hall, "setNames", 0, 20, 0);
        // Another root with the same name has issued nothing.
        Calls.due(0, hall, "setNames", 1, 0, 0);
        Calls.due(1, hall, "setNames", 2, 0, 129);
        Calls.due(3, hall, "issue", 2, 123, 9);
        Calls.due(Calls.STATE, hall, "setNames", 2, 0, 0);
        Calls.due(Calls.STATE, hall, "setNames", 3, 0, 0);
        Calls.due(Calls.ARGUMENT, hall, "setNames", 3, 0, 0 - 1);
        // The names that stood before the refusals still stand.
        hall.trust(0, true);
        Calls.due(3, hall, "chainSize", 3, 0);
        Calls.due(4, hall, "issue", 2, 129, 9);
        Calls.due(0, hall, "chainSize", 4, 0);
    }

    private static void namesOfACrossedOne() {
        Certhold hall = new Certhold();
        hall.makeRoot(1, 9, 5);
        hall.makeRoot(2, 9, 5);
        hall.issueAuthority(0, 12, 9, 5);
        Calls.due(1, hall, "setNames", 2, 9, 0);
        Calls.due(3, hall, "cross", 1, 2, 9, 5);
        // To be crossed is not to issue, but to cross is.
        Calls.due(1, hall, "setNames", 2, 9, 0);
        Calls.due(Calls.STATE, hall, "setNames", 1, 2, 0);
        hall.trust(1, true);
        hall.trust(0, true);
        // The crossed one has no names until they are set, so the issued one alone forbids 12.
        hall.issue(3, 121, 9);
        Calls.due(1, hall, "goodChains", 4, 0);
        Calls.due(3, hall, "chainAt", 4, 0, 1);
        // The key has issued now, whichever of its certificates was told.
        Calls.due(Calls.STATE, hall, "setNames", 2, 0, 0);
        Calls.due(Calls.STATE, hall, "setNames", 3, 0, 0);
        Certhold other = new Certhold();
        other.makeRoot(1, 9, 5);
        other.makeRoot(2, 9, 5);
        other.cross(0, 1, 9, 5);
        Calls.due(2, other, "setNames", 2, 3, 33);
        Calls.due(1, other, "setNames", 1, 2, 0);
        Calls.due(Calls.STATE, other, "setNames", 0, 1, 0);
    }

    private static void trust() {
        Certhold hall = new Certhold();
        hall.makeRoot(1, 1, 0);
        hall.makeRoot(2, 9, 5);
        hall.issueAuthority(0, 12, 9, 5);
        hall.cross(0, 1, 9, 5);
        Calls.due(Calls.NO_SUCH, hall, "trust", 4, true);
        Calls.due(Calls.NO_SUCH, hall, "trust", -1, false);
        Calls.due(Calls.STATE, hall, "trust", 2, true);
        Calls.due(Calls.STATE, hall, "trust", 2, false);
        Calls.due(Calls.STATE, hall, "trust", 3, true);
        Calls.due(0, hall, "trust", 0, false);
        Calls.due(1, hall, "trust", 0, true);
        Calls.due(1, hall, "trust", 0, true);
        hall.pass(5);
        Calls.due(2, hall, "trust", 1, true);
        Calls.due(1, hall, "trust", 0, false);
        Calls.due(1, hall, "trust", 0, false);
        Calls.due(0, hall, "trust", 1, false);
    }
}
