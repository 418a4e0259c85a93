/** Promises 27 to 31, and what their words mean: each boundary that a sentence names. */
public final class WalkEdgesTest {
    private static final int MOST = Integer.MAX_VALUE;

    public static void main(String[] arguments) {
        noWalk();
        daysOfTheFirstOne();
        revocationOfTheFirstOne();
        refusedForTwoReasonsAlone();
        walkThatGoesOn();
        walkInPlaceOfAnother();
        firstReasonOfEachTwo();
        twiceBeforeRevoked();
        twiceBeforeLength();
        twiceBeforeName();
        refusedStepsChangeNothing();
        daysOfAStep();
        revocationOfAStep();
        lengthOfAStep();
        namesOfAStep();
        namesOfAllBefore();
        ranks();
        knownAtTheStep();
        sevenCertificates();
        through();
        rootsOnTheWay();
        Calls.end();
    }

    /** "if no walk was begun", "0 if none was begun". */
    private static void noWalk() {
        Certhold hall = new Certhold();
        hall.makeRoot(1, 9, 5);
        hall.trust(0, true);
        hall.issue(0, 1, 9);
        Calls.due('t', hall, "begin", 1, 9);
        Calls.due(Calls.STATE, hall, "step", 0);
        Calls.due(Calls.STATE, hall, "step", -1);
        Calls.due(Calls.STATE, hall, "reached");
        Calls.due(0, hall, "walked");
        Calls.due(false, hall, "isThrough");
    }

    /** "'t', it is not valid on the day": the first one on its first and on its last day. */
    private static void daysOfTheFirstOne() {
        Certhold hall = new Certhold();
        hall.makeRoot(1, 1, 0);
        Calls.due('o', hall, "begin", 0, 0);
        Calls.due('t', hall, "begin", 0, 1);
        Calls.due('t', hall, "begin", 0, MOST);
        hall.pass(5);
        hall.makeRoot(1, 3, 0);
        Calls.due('t', hall, "begin", 1, 0);
        Calls.due('t', hall, "begin", 1, 4);
        Calls.due('o', hall, "begin", 1, 5);
        Calls.due('o', hall, "begin", 1, 7);
        Calls.due('t', hall, "begin", 1, 8);
        // Today is not asked for.
        Calls.due('o', hall, "begin", 0, 0);
    }

    /** "'r', a revocation of it has taken effect on the day or before". */
    private static void revocationOfTheFirstOne() {
        Certhold hall = new Certhold();
        hall.makeRoot(1, 99, 0);
        hall.issue(0, 1, 99);
        hall.revoke(1);
        Calls.due('o', hall, "begin", 1, 0);
        hall.pass(5);
        Calls.due('o', hall, "begin", 1, 5);
        hall.publish(0);
        Calls.due('o', hall, "begin", 1, 4);
        Calls.due('r', hall, "begin", 1, 5);
        Calls.due('r', hall, "begin", 1, 6);
        Calls.due('r', hall, "begin", 1, 98);
        Calls.due('t', hall, "begin", 1, 99);
    }

    /** "The first certificate is refused for 't' and 'r' alone". */
    private static void refusedForTwoReasonsAlone() {
        for (int reasons = 0; reasons < 16; reasons++) {
            Certhold hall = hallWithReasons(reasons);
            boolean isExpired = (reasons & 1) != 0;
            boolean isRevoked = (reasons & 2) != 0;
            Calls.due(isExpired ? 't' : isRevoked ? 'r' : 'o', hall, "begin", 2, 5);
        }
        // What is no authority begins a walk, too.
        Certhold hall = hallWithReasons(0);
        Calls.due('e', hall, "kindOf", 4);
        Calls.due('o', hall, "begin", 4, 5);
    }

    /** "then the walk does not begin"; "one that was begun goes on then", on its own day. */
    private static void walkThatGoesOn() {
        Certhold hall = new Certhold();
        hall.makeRoot(1, 3, 5);
        hall.issueAuthority(0, 1, 9, 5);
        hall.issue(1, 1, 9);
        hall.issue(1, 1, 9);
        hall.revoke(3);
        hall.publish(1);
        Calls.due('o', hall, "begin", 2, 2);
        Calls.due('o', hall, "step", 0);
        Calls.due('t', hall, "begin", 2, 9);
        Calls.due('r', hall, "begin", 3, 3);
        Calls.due(Calls.NO_SUCH, hall, "begin", 4, 3);
        Calls.due(Calls.ARGUMENT, hall, "begin", 2, -1);
        Calls.walk(hall, 1, 2, false);
        // The root is valid on day 2, but not on the days of the walks that did not begin.
        Calls.due('o', hall, "step", 0);
        Calls.walk(hall, 0, 3, false);
    }

    /** "Begins a walk, in place of one that was begun": with its own day and certificates. */
    private static void walkInPlaceOfAnother() {
        Certhold hall = new Certhold();
        hall.makeRoot(1, 3, 1);
        hall.setNames(0, 0, 2);
        hall.issueAuthority(0, 1, 9, 5);
        hall.issueAuthority(1, 1, 9, 5);
        hall.issue(2, 2, 9);
        hall.begin(3, 2);
        hall.step(0);
        hall.step(0);
        Calls.due('l', hall, "step", 0);
        Calls.due('o', hall, "begin", 2, 3);
        Calls.walk(hall, 2, 1, false);
        Calls.due('o', hall, "step", 0);
        Calls.due('t', hall, "step", 0);
        Calls.due('o', hall, "begin", 2, 2);
        Calls.due('o', hall, "step", 0);
        // Neither the length nor the name of the earlier walk's certificates is in the way.
        Calls.due('o', hall, "step", 0);
        Calls.walk(hall, 0, 3, false);
    }

    /**
     * The certificate 2 follows 3 at rank 1, and 3 follows 4. By the bits of reasons it ends
     * before day 5 (1), is revoked (2), is too short for that place (4), forbids the names (8).
     */
    private static Certhold hallWithReasons(int reasons) {
        Certhold hall = new Certhold();
        hall.makeRoot(1, 99, 5);
        hall.makeRoot(1, 99, 5);
        hall.cross(0, 1, (reasons & 1) != 0 ? 5 : 6, (reasons & 4) != 0 ? 0 : 1);
        hall.setNames(2, (reasons & 8) != 0 ? 9 : 1, 0);
        hall.issueAuthority(1, 1, 99, 5);
        hall.issue(3, 1, 99);
        hall.revoke(2);
        hall.pass((reasons & 2) != 0 ? 5 : 6);
        hall.publish(0);
        return hall;
    }

    /** "A step is refused for the first of these reasons that applies": t, r, l, n. */
    private static void firstReasonOfEachTwo() {
        for (int reasons = 0; reasons < 16; reasons++) {
            Certhold hall = hallWithReasons(reasons);
            Calls.due('o', hall, "begin", 4, 5);
            Calls.due('o', hall, "step", 0);
            char due = "otrtltrtntrtltrt".charAt(reasons);
            Calls.due(due, hall, "step", 1);
            Calls.walk(hall, due == 'o' ? 2 : 3, due == 'o' ? 3 : 2, false);
        }
    }

    /** Two roots, 0 and 1, that cross each other: 2 is 0 crossed, 3 is 1 crossed. */
    private static Certhold crossedRoots(int length, int permitted) {
        Certhold hall = new Certhold();
        hall.makeRoot(1, 99, 5);
        hall.makeRoot(2, 99, 5);
        hall.cross(1, 0, 99, length);
        hall.setNames(2, permitted, 0);
        hall.cross(0, 1, 99, 5);
        return hall;
    }

    /** "'x', the certificate is in the chain already": before each of the other reasons. */
    private static void twiceBeforeRevoked() {
        Certhold hall = crossedRoots(5, 0);
        hall.begin(2, 0);
        Calls.due('o', hall, "step", 1);
        hall.revoke(2);
        hall.publish(1);
        Calls.due('x', hall, "step", 1);
        Calls.walk(hall, 3, 2, false);
        // A certificate can be in the chain other than as the last one but one.
        Calls.due('o', hall, "step", 0);
        Calls.due('x', hall, "step", 0);
        Calls.walk(hall, 0, 3, false);
    }

    private static void twiceBeforeLength() {
        Certhold hall = crossedRoots(0, 0);
        hall.begin(2, 0);
        Calls.due('o', hall, "step", 1);
        Calls.due('o', hall, "step", 0);
        Calls.walk(hall, 0, 3, false);
        Calls.due('x', hall, "step", 0);
        // Not in the chain yet, it is too short with one between.
        hall.issue(0, 1, 99);
        hall.begin(4, 0);
        Calls.due('o', hall, "step", 0);
        Calls.due('l', hall, "step", 0);
    }

    private static void twiceBeforeName() {
        Certhold hall = crossedRoots(5, 9);
        hall.begin(2, 0);
        Calls.due('o', hall, "step", 1);
        Calls.due('x', hall, "step", 1);
        // Where it is not in the chain, its names are asked for.
        hall.begin(3, 0);
        Calls.due('n', hall, "step", 1);
    }

    /** A step or a beginning that is refused leaves the hall as it is. */
    private static void refusedStepsChangeNothing() {
        for (int reasons = 1; reasons < 16; reasons++) {
            int each = reasons;
            String untouched = Snapshot.of(atTheStep(each));
            Snapshot.unchanged(() -> atTheStep(each), untouched, "step", 1);
            if ((reasons & 3) != 0) {
                Snapshot.unchanged(() -> atTheStep(each), untouched, "begin", 2, 5);
            }
        }
        String untouched = Snapshot.of(beforeTwice());
        Snapshot.unchanged(WalkEdgesTest::beforeTwice, untouched, "step", 1);
    }

    private static Certhold atTheStep(int reasons) {
        Certhold hall = hallWithReasons(reasons);
        hall.begin(4, 5);
        hall.step(0);
        return hall;
    }

    private static Certhold beforeTwice() {
        Certhold hall = crossedRoots(5, 0);
        hall.begin(2, 0);
        hall.step(1);
        return hall;
    }

    private static void daysOfAStep() {
        Certhold hall = new Certhold();
        hall.makeRoot(1, 99, 5);
        hall.makeRoot(1, 99, 5);
        hall.issue(1, 1, 99);
        hall.pass(4);
        hall.cross(0, 1, 3, 5);
        char[] due = {'t', 'o', 'o', 'o', 't'};
        for (int day = 3; day <= 7; day++) {
            hall.begin(2, day);
            Calls.due(due[day - 3], hall, "step", 1);
        }
    }

    private static void revocationOfAStep() {
        Certhold hall = new Certhold();
        hall.makeRoot(1, 99, 5);
        hall.issueAuthority(0, 1, 99, 5);
        hall.issue(1, 1, 99);
        hall.revoke(1);
        hall.pass(4);
        hall.begin(2, 98);
        Calls.due('o', hall, "step", 0);
        hall.publish(0);
        char[] due = {'o', 'o', 'r', 'r', 'r'};
        int[] days = {0, 3, 4, 5, 98};
        for (int i = 0; i < days.length; i++) {
            hall.begin(2, days[i]);
            Calls.due(due[i], hall, "step", 0);
        }
    }

    /** "its length is less than the number of certificates between it and the first one". */
    private static void lengthOfAStep() {
        for (int length = 0; length <= 5; length++) {
            Certhold hall = new Certhold();
            hall.makeRoot(1, 99, length);
            for (int number = 1; number <= 7; number++) {
                hall.issueAuthority(number - 1, 1, 99, 5);
            }
            for (int between = 0; between <= 5; between++) {
                hall.begin(between + 1, 0);
                for (int step = 0; step < between; step++) {
                    Calls.due('o', hall, "step", 0);
                }
                Calls.due(between <= length ? 'o' : 'l', hall, "step", 0);
                Calls.due(between <= length ? between + 2 : between + 1, hall, "walked");
            }
        }
    }

    /** "is not below its permitted name, or is below its excluded one". */
    private static void namesOfAStep() {
        int[][] rules = {{12, 0, 12, 'o'}, {12, 0, 123, 'o'}, {12, 0, 1, 'n'}, {12, 0, 13, 'n'},
            {12, 0, 21, 'n'}, {0, 12, 12, 'n'}, {0, 12, 1234, 'n'}, {0, 12, 1, 'o'},
            {0, 12, 13, 'o'}, {0, 12, 212, 'o'}, {1, 12, 13, 'o'}, {1, 12, 12, 'n'},
            {1, 12, 2, 'n'}, {12, 1, 12, 'n'}, {12, 12, 12, 'n'}, {0, 0, 9, 'o'}};
        for (int[] rule : rules) {
            Certhold hall = new Certhold();
            hall.makeRoot(1, 99, 5);
            hall.setNames(0, rule[0], rule[1]);
            hall.issue(0, rule[2], 99);
            hall.begin(1, 0);
            Calls.due((char) rule[3], hall, "step", 0);
        }
    }

    /** "the name of a certificate that is in the chain already": of any of them, not its own. */
    private static void namesOfAllBefore() {
        for (int wrong = 0; wrong <= 4; wrong++) {
            Certhold hall = new Certhold();
            hall.makeRoot(1, 99, 5);
            hall.setNames(0, 2, 0);
            for (int number = 1; number <= 4; number++) {
                hall.issueAuthority(number - 1, number == wrong ? 3 : 2, 99, 5);
            }
            hall.begin(4, 0);
            for (int step = 0; step < 3; step++) {
                Calls.due('o', hall, "step", 0);
            }
            Calls.due(wrong == 0 ? 'o' : 'n', hall, "step", 0);
        }
    }

    /** "if there is no such rank": of the certificate that is reached. */
    private static void ranks() {
        Certhold hall = new Certhold();
        hall.makeRoot(1, 99, 5);
        hall.makeRoot(2, 99, 5);
        hall.cross(1, 0, 99, 5);
        hall.cross(1, 0, 99, 5);
        hall.issue(0, 1, 99);
        int[] reached = {0, 2, 3};
        for (int rank = 0; rank < 3; rank++) {
            hall.begin(4, 0);
            Calls.due(Calls.INDEX, hall, "step", -1);
            Calls.due(Calls.INDEX, hall, "step", 3);
            Calls.walk(hall, 4, 1, false);
            Calls.due('o', hall, "step", rank);
            Calls.walk(hall, reached[rank], 2, false);
        }
        Calls.due(Calls.INDEX, hall, "step", 1);
        Calls.due('o', hall, "step", 0);
        Calls.due(Calls.INDEX, hall, "step", 0);
        Calls.walk(hall, 1, 3, false);
    }

    /** "as known at the step": what takes effect later leaves the steps that were made. */
    private static void knownAtTheStep() {
        Certhold hall = new Certhold();
        hall.makeRoot(1, 99, 5);
        hall.issueAuthority(0, 1, 99, 5);
        hall.issueAuthority(1, 1, 99, 5);
        hall.issue(2, 1, 99);
        hall.begin(3, 50);
        hall.revoke(1);
        hall.revoke(2);
        hall.revoke(3);
        Calls.due('o', hall, "step", 0);
        hall.publish(2);
        hall.publish(1);
        Calls.walk(hall, 2, 2, false);
        Calls.due('o', hall, "step", 0);
        hall.publish(0);
        hall.trust(0, true);
        Calls.due('o', hall, "step", 0);
        Calls.walk(hall, 0, 4, true);
        Calls.due('r', hall, "begin", 3, 50);
        // Known only now: the same step is refused in a walk that is begun anew.
        hall.issue(2, 1, 99);
        Calls.due('o', hall, "begin", 4, 50);
        Calls.due('r', hall, "step", 0);
    }

    /** A length is at most 5, so that no walk has more than 7 certificates. */
    private static void sevenCertificates() {
        Certhold hall = new Certhold();
        hall.makeRoot(1, 99, 5);
        for (int number = 1; number <= 8; number++) {
            hall.issueAuthority(number - 1, 1, 99, 5);
        }
        hall.begin(7, 0);
        for (int walked = 2; walked <= 7; walked++) {
            Calls.due('o', hall, "step", 0);
            Calls.walk(hall, 8 - walked, walked, false);
        }
        for (int again = 0; again < 3; again++) {
            Calls.due('l', hall, "step", 0);
            Calls.walk(hall, 1, 7, false);
        }
    }

    /** "if the certificate that it has reached is a root that is trusted now". */
    private static void through() {
        Certhold hall = new Certhold();
        hall.makeRoot(1, 9, 5);
        hall.issue(0, 1, 9);
        hall.begin(1, 0);
        hall.trust(0, true);
        Calls.walk(hall, 1, 1, false);
        hall.step(0);
        Calls.walk(hall, 0, 2, true);
        hall.trust(0, false);
        Calls.walk(hall, 0, 2, false);
        hall.pass(99);
        hall.trust(0, true);
        Calls.walk(hall, 0, 2, true);
        hall.begin(1, 0);
        Calls.walk(hall, 1, 1, false);
        hall.begin(0, 0);
        Calls.walk(hall, 0, 1, true);
    }

    /** A root that is trusted is the end of a chain, but a walk can go on from it. */
    private static void rootsOnTheWay() {
        Certhold hall = crossedRoots(5, 0);
        hall.issue(0, 1, 99);
        hall.trust(0, true);
        hall.begin(4, 0);
        Calls.due('o', hall, "step", 0);
        Calls.walk(hall, 0, 2, true);
        Calls.due('o', hall, "step", 0);
        Calls.walk(hall, 2, 3, false);
        Calls.due('o', hall, "step", 0);
        Calls.walk(hall, 1, 4, false);
        hall.trust(1, true);
        Calls.due(true, hall, "isThrough");
    }
}
