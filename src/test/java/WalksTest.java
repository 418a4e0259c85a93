/** Promises 27 to 31: walks, each reason of a refusal, and what they know. */
public final class WalksTest {
    public static void main(String[] arguments) {
        begin();
        step();
        reasons();
        firstReasonThatApplies();
        lengthOfAWalk();
        twice();
        knownAtTheStep();
        through();
        Calls.end();
    }

    private static void begin() {
        Certhold hall = new Certhold();
        Calls.due(Calls.NO_SUCH, hall, "begin", 0, -1);
        hall.makeRoot(1, 10, 0);
        hall.pass(5);
        hall.issue(0, 2, 10);
        Calls.due(Calls.ARGUMENT, hall, "begin", 0, -1);
        Calls.due(Calls.ARGUMENT, hall, "begin", 0, Integer.MIN_VALUE);
        Calls.due(Calls.NO_SUCH, hall, "begin", 2, 0);
        Calls.due(Calls.NO_SUCH, hall, "begin", -1, 0);
        Calls.due('t', hall, "begin", 1, 4);
        Calls.due('t', hall, "begin", 1, 15);
        Calls.due('t', hall, "begin", 0, Integer.MAX_VALUE);
        Calls.due(0, hall, "walked");
        Calls.due(Calls.STATE, hall, "reached");
        Calls.due('o', hall, "begin", 1, 14);
        Calls.walk(hall, 1, 1, false);
        // A walk that does not begin leaves the one that was begun.
        Calls.due('t', hall, "begin", 0, 10);
        Calls.due(Calls.ARGUMENT, hall, "begin", 0, -1);
        Calls.due(Calls.NO_SUCH, hall, "begin", 2, 0);
        Calls.walk(hall, 1, 1, false);
        hall.revoke(1);
        hall.publish(0);
        Calls.due('r', hall, "begin", 1, 5);
        Calls.due('t', hall, "begin", 1, 4);
        Calls.walk(hall, 1, 1, false);
        Calls.due('o', hall, "begin", 0, 5);
        Calls.walk(hall, 0, 1, false);
    }

    private static void step() {
        Certhold hall = new Certhold();
        Calls.due(Calls.STATE, hall, "step", 0);
        Calls.due(Calls.STATE, hall, "step", -1);
        hall.makeRoot(1, 10, 0);
        hall.issue(0, 2, 10);
        Calls.due(Calls.STATE, hall, "step", 0);
        hall.begin(1, 0);
        Calls.due(Calls.INDEX, hall, "step", -1);
        Calls.due(Calls.INDEX, hall, "step", 1);
        Calls.due(Calls.INDEX, hall, "step", Integer.MAX_VALUE);
        Calls.due(Calls.INDEX, hall, "step", Integer.MIN_VALUE);
        Calls.walk(hall, 1, 1, false);
        Calls.due('o', hall, "step", 0);
        Calls.walk(hall, 0, 2, false);
        Calls.due(Calls.INDEX, hall, "step", 0);
        // In place of the walk that was begun.
        Calls.due('o', hall, "begin", 1, 0);
        Calls.walk(hall, 1, 1, false);
    }

    private static void reasons() {
        Certhold hall = new Certhold();
        hall.makeRoot(1, 20, 0);
        hall.makeRoot(2, 5, 5);
        hall.setNames(1, 3, 0);
        hall.issueAuthority(0, 3, 20, 5);
        hall.cross(1, 2, 20, 5);
        hall.issueAuthority(2, 33, 20, 5);
        hall.issue(4, 333, 20);
        hall.begin(5, 5);
        Calls.due('o', hall, "step", 0);
        Calls.due('o', hall, "step", 0);
        Calls.walk(hall, 2, 3, false);
        Calls.due('l', hall, "step", 0);
        Calls.walk(hall, 2, 3, false);
        hall.begin(5, 5);
        hall.step(0);
        Calls.due('o', hall, "step", 1);
        Calls.due('t', hall, "step", 0);
        Calls.walk(hall, 3, 3, false);
        hall.begin(5, 4);
        hall.step(0);
        hall.step(1);
        Calls.due('o', hall, "step", 0);
        Calls.walk(hall, 1, 4, false);
        hall.issue(2, 2, 20);
        hall.begin(6, 0);
        Calls.due('o', hall, "step", 1);
        Calls.due('n', hall, "step", 0);
        hall.revoke(3);
        hall.pass(2);
        hall.publish(1);
        hall.begin(6, 1);
        Calls.due('o', hall, "step", 1);
        hall.begin(6, 2);
        Calls.due('r', hall, "step", 1);
        Calls.walk(hall, 6, 1, false);
        excludedNames();
    }

    private static void excludedNames() {
        Certhold hall = new Certhold();
        hall.makeRoot(1, 20, 5);
        hall.setNames(0, 0, 22);
        hall.issueAuthority(0, 3, 20, 5);
        hall.issue(1, 221, 20);
        hall.issue(1, 2, 20);
        hall.begin(2, 0);
        Calls.due('o', hall, "step", 0);
        Calls.due('n', hall, "step", 0);
        Calls.walk(hall, 1, 2, false);
        hall.begin(3, 0);
        Calls.due('o', hall, "step", 0);
        Calls.due('o', hall, "step", 0);
    }

    private static void firstReasonThatApplies() {
        // The root is not valid, too short, of a wrong name, and the crossed one revoked too.
        Certhold hall = new Certhold();
        hall.makeRoot(1, 3, 0);
        hall.setNames(0, 9, 0);
        hall.makeRoot(5, 99, 5);
        hall.issueAuthority(0, 2, 99, 5);
        hall.issueAuthority(2, 2, 99, 5);
        hall.issue(3, 2, 99);
        hall.begin(4, 3);
        hall.step(0);
        hall.step(0);
        Calls.due('t', hall, "step", 0);
        hall.begin(4, 2);
        hall.step(0);
        hall.step(0);
        Calls.due('l', hall, "step", 0);
        hall.begin(2, 2);
        Calls.due('n', hall, "step", 0);
        // A crossed root that is revoked, too short and of a wrong name, then not valid.
        hall.cross(1, 0, 4, 0);
        hall.revoke(5);
        hall.publish(1);
        hall.begin(4, 3);
        hall.step(0);
        hall.step(0);
        Calls.due('r', hall, "step", 1);
        hall.begin(4, 4);
        hall.step(0);
        hall.step(0);
        Calls.due('t', hall, "step", 1);
        Calls.walk(hall, 2, 3, false);
    }

    private static void lengthOfAWalk() {
        Certhold hall = new Certhold();
        hall.makeRoot(1, 9, 5);
        hall.trust(0, true);
        for (int number = 1; number <= 7; number++) {
            hall.issueAuthority(number - 1, 1, 9, 5);
        }
        hall.begin(6, 0);
        for (int walked = 2; walked <= 7; walked++) {
            Calls.due('o', hall, "step", 0);
            Calls.due(walked, hall, "walked");
        }
        Calls.walk(hall, 0, 7, true);
        hall.begin(7, 0);
        for (int walked = 2; walked <= 7; walked++) {
            Calls.due('o', hall, "step", 0);
        }
        Calls.due('l', hall, "step", 0);
        Calls.walk(hall, 1, 7, false);
    }

    private static void twice() {
        Certhold hall = new Certhold();
        hall.makeRoot(1, 3, 5);
        hall.makeRoot(2, 9, 5);
        hall.cross(1, 0, 9, 0);
        hall.cross(0, 1, 9, 0);
        // From the root 0 by 2 and 3 back to 0; 'x' comes before all other reasons.
        hall.begin(0, 0);
        Calls.due('o', hall, "step", 0);
        Calls.due('l', hall, "step", 1);
        Calls.due('o', hall, "step", 0);
        Calls.walk(hall, 1, 3, false);
        Calls.due('l', hall, "step", 0);
        hall.begin(2, 0);
        Calls.due('o', hall, "step", 1);
        Calls.walk(hall, 3, 2, false);
        Calls.due('x', hall, "step", 1);
        Calls.due('o', hall, "step", 0);
        Calls.walk(hall, 0, 3, false);
        Calls.due('x', hall, "step", 0);
        hall.revoke(2);
        hall.publish(1);
        Calls.due('x', hall, "step", 0);
        Calls.walk(hall, 0, 3, false);
    }

    private static void knownAtTheStep() {
        Certhold hall = new Certhold();
        hall.makeRoot(1, 99, 5);
        hall.issueAuthority(0, 1, 99, 5);
        hall.issue(1, 1, 99);
        hall.pass(1);
        hall.begin(2, 3);
        hall.revoke(1);
        hall.revoke(2);
        hall.pass(1);
        Calls.due(1, hall, "publish", 0);
        // It took effect on day 2, after the walk began and before the walk's day.
        Calls.due('r', hall, "step", 0);
        Calls.due(1, hall, "publish", 1);
        Calls.walk(hall, 2, 1, false);
        hall.begin(2, 1);
        Calls.due('o', hall, "step", 0);
        // A certificate that came after the walk began is a candidate, too.
        hall.makeRoot(2, 1, 5);
        hall.cross(3, 0, 99, 5);
        Calls.due('o', hall, "step", 0);
        Calls.walk(hall, 0, 3, false);
        Calls.due('t', hall, "step", 0);
        hall.begin(0, 2);
        Calls.due('o', hall, "step", 0);
        Calls.walk(hall, 4, 2, false);
    }

    private static void through() {
        Certhold hall = new Certhold();
        hall.makeRoot(1, 9, 5);
        hall.issueAuthority(0, 1, 9, 5);
        hall.trust(0, true);
        hall.begin(0, 0);
        Calls.walk(hall, 0, 1, true);
        hall.begin(1, 0);
        Calls.walk(hall, 1, 1, false);
        hall.step(0);
        Calls.walk(hall, 0, 2, true);
        hall.trust(0, false);
        Calls.walk(hall, 0, 2, false);
        hall.trust(0, true);
        hall.pass(999);
        Calls.walk(hall, 0, 2, true);
    }
}
