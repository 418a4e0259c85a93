/** Promises 8 to 11, 19 and 20, and what their words mean: each boundary that a sentence names. */
public final class RevokingEdgesTest {
    private static final String[] WAYS = {"isRevoked", "isRevokedByLists"};
    private static final int MOST = Integer.MAX_VALUE;

    public static void main(String[] arguments) {
        markedAndNotInEffect();
        ofItsIssuerAlone();
        issuerByNameAndKey();
        rootsAndWhatIsMarked();
        whatMayBeRevoked();
        allOfAFullHall();
        fromTheDayOfTheList();
        listOfDayZero();
        allThatWereMarkedSoFar();
        whatTookEffectStays();
        emptyLists();
        whoPublishes();
        daysThatPass();
        daysThatAreAsked();
        Calls.end();
    }

    /** Two roots of one name; below the first one the authority 2, and 3 and 4, which are none. */
    private static Certhold hall() {
        Certhold hall = new Certhold();
        hall.makeRoot(1, 99, 5);
        hall.makeRoot(1, 99, 5);
        hall.issueAuthority(0, 1, 99, 5);
        hall.issue(0, 1, 99);
        hall.issue(0, 1, 99);
        return hall;
    }

    private static void revoked(Certhold hall, int certificate, int day, boolean isRevoked) {
        for (String way : WAYS) {
            Calls.due(isRevoked, hall, way, certificate, day);
        }
    }

    /** "the number of certificates of its issuer that are marked and have not taken effect". */
    private static void markedAndNotInEffect() {
        Certhold hall = hall();
        Calls.due(1, hall, "revoke", 4);
        Calls.due(2, hall, "revoke", 2);
        Calls.due(2, hall, "publish", 0);
        Calls.due(1, hall, "revoke", 3);
        Calls.due(1, hall, "publish", 0);
        Calls.due(0, hall, "publish", 0);
    }

    private static void ofItsIssuerAlone() {
        Certhold hall = hall();
        hall.issue(1, 1, 99);
        hall.issue(2, 1, 99);
        Calls.due(1, hall, "revoke", 3);
        Calls.due(1, hall, "revoke", 5);
        Calls.due(1, hall, "revoke", 6);
        Calls.due(2, hall, "revoke", 4);
        // Each publishes its own marks, and leaves those of the others.
        Calls.due(1, hall, "publish", 1);
        Calls.due(3, hall, "revoke", 2);
        Calls.due(1, hall, "publish", 2);
        Calls.due(3, hall, "publish", 0);
    }

    /** "The issuer of a certificate, told by name and key": any certificate that has both. */
    private static void issuerByNameAndKey() {
        Certhold hall = hall();
        hall.cross(1, 2, 99, 5);
        hall.issue(2, 1, 99);
        hall.issue(5, 1, 99);
        Calls.due(1, hall, "revoke", 6);
        Calls.due(2, hall, "revoke", 7);
        Calls.due(2, hall, "publish", 5);
        revoked(hall, 6, 0, true);
        revoked(hall, 7, 0, true);
        // The crossed one is the crossing issuer's.
        Calls.due(1, hall, "revoke", 5);
        Calls.due(0, hall, "publish", 0);
        Calls.due(0, hall, "publish", 2);
        Calls.due(1, hall, "publish", 1);
        revoked(hall, 5, 0, true);
        revoked(hall, 2, 0, false);
    }

    /** "if it is a root, or is marked already": before and after it has taken effect. */
    private static void rootsAndWhatIsMarked() {
        Certhold hall = hall();
        Calls.due(Calls.STATE, hall, "revoke", 0);
        Calls.due(Calls.STATE, hall, "revoke", 1);
        Calls.due(1, hall, "revoke", 2);
        Calls.due(Calls.STATE, hall, "revoke", 2);
        Calls.due(1, hall, "publish", 0);
        Calls.due(Calls.STATE, hall, "revoke", 2);
        Calls.due(0, hall, "publish", 0);
        revoked(hall, 0, MOST, false);
        revoked(hall, 1, MOST, false);
    }

    /** Neither days nor a revoked issuer hinder, and a crossed root is no root. */
    private static void whatMayBeRevoked() {
        Certhold hall = hall();
        hall.cross(0, 1, 1, 5);
        hall.issue(2, 1, 1);
        hall.revoke(2);
        hall.publish(0);
        hall.pass(500);
        Calls.due(1, hall, "revoke", 5);
        Calls.due(1, hall, "revoke", 6);
        Calls.due(1, hall, "publish", 2);
        Calls.due(1, hall, "publish", 0);
        revoked(hall, 6, 500, true);
        revoked(hall, 5, 500, true);
    }

    private static void allOfAFullHall() {
        Certhold hall = new Certhold();
        hall.makeRoot(1, 99, 5);
        for (int number = 1; number < 40; number++) {
            hall.issue(0, 1, 99);
        }
        for (int number = 1; number < 40; number++) {
            Calls.due(number, hall, "revoke", number);
        }
        hall.pass(1);
        Calls.due(39, hall, "publish", 0);
        Calls.due(0, hall, "publish", 0);
        for (int number = 1; number < 40; number++) {
            revoked(hall, number, 0, false);
            revoked(hall, number, 1, true);
        }
        revoked(hall, 0, 1, false);
        Calls.due(1.0f / 40.0f, hall, "soundShare");
    }

    /** "takes effect on the day on which the issuer publishes its list, and from then on". */
    private static void fromTheDayOfTheList() {
        Certhold hall = hall();
        hall.pass(3);
        hall.revoke(3);
        revoked(hall, 3, 3, false);
        revoked(hall, 3, MOST, false);
        hall.pass(4);
        hall.publish(0);
        revoked(hall, 3, 0, false);
        revoked(hall, 3, 3, false);
        revoked(hall, 3, 6, false);
        revoked(hall, 3, 7, true);
        revoked(hall, 3, 8, true);
        revoked(hall, 3, MOST, true);
        revoked(hall, 4, 7, false);
        // The certificate ends on day 98, and its revocation does not end.
        hall.pass(999);
        revoked(hall, 3, 98, true);
        revoked(hall, 3, 1006, true);
        revoked(hall, 3, 6, false);
    }

    private static void listOfDayZero() {
        Certhold hall = hall();
        hall.revoke(3);
        hall.publish(0);
        revoked(hall, 3, 0, true);
        revoked(hall, 3, 1, true);
        revoked(hall, 4, 0, false);
    }

    /** "has all certificates with this issuer that were marked so far". */
    private static void allThatWereMarkedSoFar() {
        Certhold hall = hall();
        hall.revoke(2);
        hall.revoke(3);
        hall.pass(5);
        Calls.due(2, hall, "publish", 0);
        // Marked on the same day, but after the list.
        hall.revoke(4);
        revoked(hall, 2, 5, true);
        revoked(hall, 3, 5, true);
        revoked(hall, 4, 5, false);
        // A second list of the same day brings it.
        Calls.due(1, hall, "publish", 0);
        revoked(hall, 4, 4, false);
        revoked(hall, 4, 5, true);
    }

    /** "what took effect once stays so": also on the days before a later list. */
    private static void whatTookEffectStays() {
        Certhold hall = hall();
        hall.revoke(2);
        hall.pass(2);
        hall.publish(0);
        for (int list = 0; list < 3; list++) {
            hall.pass(2);
            Calls.due(0, hall, "publish", 0);
        }
        hall.revoke(3);
        Calls.due(1, hall, "publish", 0);
        revoked(hall, 2, 1, false);
        revoked(hall, 2, 2, true);
        revoked(hall, 2, 7, true);
        revoked(hall, 2, 8, true);
        revoked(hall, 3, 7, false);
        revoked(hall, 3, 8, true);
    }

    /** "the number of revocations that take effect by this": none if none is marked. */
    private static void emptyLists() {
        Certhold hall = hall();
        for (int issuer = 0; issuer < 3; issuer++) {
            Calls.due(0, hall, "publish", issuer);
        }
        for (int number = 0; number < 5; number++) {
            revoked(hall, number, MOST, false);
        }
        // More lists than certificates, and than calls on any of them; all but one are empty.
        for (int list = 0; list < 200; list++) {
            Calls.due(0, hall, "publish", 0);
            Calls.due(list + 1, hall, "pass", 1);
        }
        hall.revoke(3);
        Calls.due(1, hall, "publish", 0);
        revoked(hall, 3, 199, false);
        revoked(hall, 3, 200, true);
    }

    /** "if it is no authority": an authority that has issued nothing, is revoked or old, may. */
    private static void whoPublishes() {
        Certhold hall = hall();
        Calls.due(Calls.STATE, hall, "publish", 3);
        Calls.due(Calls.STATE, hall, "publish", 4);
        Calls.due(0, hall, "publish", 1);
        hall.revoke(2);
        hall.publish(0);
        hall.pass(200);
        Calls.due(0, hall, "publish", 2);
    }

    /** "not between 1 and 999", "Returns the day", "the number of days that have passed". */
    private static void daysThatPass() {
        Certhold hall = new Certhold();
        Calls.due(0, hall, "day");
        Calls.due(1, hall, "pass", 1);
        Calls.due(1, hall, "day");
        Calls.due(1000, hall, "pass", 999);
        Calls.due(1000, hall, "day");
        Calls.due(Calls.ARGUMENT, hall, "pass", 0);
        Calls.due(Calls.ARGUMENT, hall, "pass", 1000);
        Calls.due(1000, hall, "day");
        Calls.due(1998, hall, "pass", 998);
        Calls.due(2000, hall, "pass", 2);
        Calls.due(2000, hall, "day");
    }

    /** "if day is less than 0": day 0 and the greatest number are days. */
    private static void daysThatAreAsked() {
        Certhold hall = hall();
        for (String way : WAYS) {
            Calls.due(false, hall, way, 4, 0);
            Calls.due(false, hall, way, 4, MOST);
            Calls.due(Calls.ARGUMENT, hall, way, 4, -1);
            Calls.due(Calls.NO_SUCH, hall, way, 5, -1);
        }
        hall.pass(5);
        // A day that is not there yet.
        hall.revoke(4);
        hall.publish(0);
        revoked(hall, 4, 6, true);
    }
}
