/** Promises 23 to 26, and what their words mean: each boundary that a sentence names. */
public final class ChainEdgesTest {
    private static final int MOST = Integer.MAX_VALUE;

    public static void main(String[] arguments) {
        noGoodChain();
        indicesOfTheBest();
        rootAlone();
        daysOfEachCertificate();
        daysOfACrossedOne();
        revocationOfEachCertificate();
        marksAreNoRevocations();
        firstMayBeNoAuthority();
        lengthOfEachAuthority();
        lengthOfTheFirstOne();
        sevenCertificates();
        eightCertificates();
        permittedAndExcluded();
        namesOfAllBefore();
        namesBehindAlone();
        namesOfEachBehind();
        rootIsTrusted();
        trustInTheMiddle();
        fewestCertificates();
        lowerNumberWhereTheyFirstDiffer();
        fewestBeforeLower();
        lowerOneThatIsNotGood();
        noCertificateTwice();
        sameNameOtherKey();
        manyChains();
        daysThatAreAsked();
        noCallByAnother();
        Calls.end();
    }

    /** A trusted root of name 1, and below it so many authorities, each below the other. */
    private static Certhold tower(int authorities) {
        Certhold hall = new Certhold();
        hall.makeRoot(1, 99, 5);
        hall.trust(0, true);
        for (int number = 1; number <= authorities; number++) {
            hall.issueAuthority(number - 1, 1, 99, 5);
        }
        return hall;
    }

    /** "0 if no chain is good", "or there is none". */
    private static void noGoodChain() {
        Certhold hall = new Certhold();
        hall.makeRoot(1, 9, 5);
        hall.issue(0, 1, 9);
        for (int first = 0; first < 2; first++) {
            Calls.chains(hall, first, 0, 0);
            Calls.due(Calls.INDEX, hall, "chainAt", first, 0, 1);
            Calls.due(Calls.INDEX, hall, "chainAt", first, 0, MOST);
        }
    }

    /** "if the best chain has no such index": its first and its last one. */
    private static void indicesOfTheBest() {
        for (int size = 1; size <= 7; size++) {
            Certhold hall = tower(size - 1);
            for (int index = 0; index < size; index++) {
                Calls.due(size - 1 - index, hall, "chainAt", size - 1, 0, index);
            }
            for (int index : new int[] {-1, size, 7, 8, Integer.MIN_VALUE, MOST}) {
                Calls.due(index < 0 || index >= size ? Calls.INDEX : size - 1 - index, hall,
                        "chainAt", size - 1, 0, index);
            }
        }
    }

    /** A chain that begins with a root may end with it, whatever its length and names. */
    private static void rootAlone() {
        Certhold hall = new Certhold();
        hall.makeRoot(1, 9, 0);
        hall.setNames(0, 2, 1);
        Calls.chains(hall, 0, 0, 0);
        hall.trust(0, true);
        Calls.chains(hall, 0, 0, 1, 0);
        Calls.chains(hall, 0, 8, 1, 0);
        Calls.chains(hall, 0, 9, 0);
    }

    /** "Each of its certificates is valid on the day": the last day of any of them is the end. */
    private static void daysOfEachCertificate() {
        for (int shortest = 0; shortest < 3; shortest++) {
            Certhold hall = new Certhold();
            hall.pass(2);
            hall.makeRoot(1, shortest == 0 ? 6 : 99, 5);
            hall.trust(0, true);
            hall.pass(1);
            hall.issueAuthority(0, 1, shortest == 1 ? 5 : 99, 5);
            hall.pass(1);
            hall.issue(1, 1, shortest == 2 ? 4 : 99);
            Calls.chains(hall, 2, 3, 0);
            Calls.chains(hall, 2, 4, 1, 2, 1, 0);
            Calls.chains(hall, 2, 7, 1, 2, 1, 0);
            Calls.chains(hall, 2, 8, 0);
            Calls.chains(hall, 1, 2, 0);
            Calls.chains(hall, 1, 3, 1, 1, 0);
            Calls.chains(hall, 0, 1, 0);
            Calls.chains(hall, 0, 2, 1, 0);
        }
    }

    /** One behind can be younger than the first one. */
    private static void daysOfACrossedOne() {
        Certhold hall = new Certhold();
        hall.makeRoot(1, 99, 5);
        hall.issue(0, 1, 99);
        hall.makeRoot(2, 99, 5);
        hall.trust(2, true);
        hall.pass(5);
        hall.cross(2, 0, 3, 5);
        Calls.chains(hall, 1, 4, 0);
        // Past the root 0, and by it.
        Calls.chains(hall, 1, 5, 2, 1, 3, 2);
        Calls.chains(hall, 1, 7, 2, 1, 3, 2);
        Calls.chains(hall, 1, 8, 0);
    }

    /** "no revocation of it has taken effect on this day or before": of any of them. */
    private static void revocationOfEachCertificate() {
        for (int revoked = 1; revoked <= 3; revoked++) {
            Certhold hall = tower(2);
            hall.issue(2, 1, 99);
            hall.revoke(revoked);
            hall.pass(5);
            hall.publish(revoked - 1);
            Calls.chains(hall, 3, 0, 1, 3, 2, 1, 0);
            Calls.chains(hall, 3, 4, 1, 3, 2, 1, 0);
            Calls.chains(hall, 3, 5, 0);
            Calls.chains(hall, 3, 6, 0);
            Calls.chains(hall, 3, 98, 0);
        }
    }

    private static void marksAreNoRevocations() {
        Certhold hall = tower(2);
        hall.revoke(1);
        hall.revoke(2);
        Calls.chains(hall, 2, 0, 1, 2, 1, 0);
        // Other issuers' lists have none of them.
        hall.publish(2);
        Calls.chains(hall, 2, 0, 1, 2, 1, 0);
        hall.publish(1);
        Calls.chains(hall, 2, 0, 0);
        Calls.chains(hall, 1, 0, 1, 1, 0);
    }

    /** "All but the first one are authorities." */
    private static void firstMayBeNoAuthority() {
        Certhold hall = tower(1);
        hall.issue(1, 1, 99);
        hall.issue(0, 1, 99);
        Calls.chains(hall, 2, 0, 1, 2, 1, 0);
        Calls.chains(hall, 3, 0, 1, 3, 0);
    }

    /** "not less than the number of certificates between it and the first one". */
    private static void lengthOfEachAuthority() {
        for (int place = 1; place <= 6; place++) {
            for (int length = 0; length <= 5; length++) {
                Certhold hall = new Certhold();
                hall.makeRoot(1, 99, place == 6 ? length : 5);
                hall.trust(0, true);
                for (int number = 1; number <= 6; number++) {
                    hall.issueAuthority(number - 1, 1, 99, 6 - number == place ? length : 5);
                }
                if (length >= place - 1) {
                    Calls.chains(hall, 6, 0, 1, 6, 5, 4, 3, 2, 1, 0);
                } else {
                    Calls.chains(hall, 6, 0, 0);
                }
            }
        }
    }

    /** "each authority but the first certificate": the first one may have any length. */
    private static void lengthOfTheFirstOne() {
        for (int length = 0; length <= 5; length++) {
            Certhold hall = tower(5);
            hall.issueAuthority(5, 1, 99, length);
            Calls.chains(hall, 6, 0, 1, 6, 5, 4, 3, 2, 1, 0);
        }
    }

    /** "all chains of at most 7 certificates". */
    private static void sevenCertificates() {
        Certhold hall = tower(5);
        hall.issue(5, 1, 99);
        Calls.chains(hall, 6, 0, 1, 6, 5, 4, 3, 2, 1, 0);
        Calls.due(Calls.INDEX, hall, "chainAt", 6, 0, 7);
    }

    private static void eightCertificates() {
        Certhold hall = tower(6);
        hall.issue(6, 1, 99);
        Calls.chains(hall, 7, 0, 0);
        Calls.chains(hall, 6, 0, 1, 6, 5, 4, 3, 2, 1, 0);
        // A trusted root nearer by makes a shorter chain.
        hall.makeRoot(1, 99, 5);
        hall.trust(8, true);
        hall.cross(8, 1, 99, 5);
        Calls.chains(hall, 7, 0, 0);
        hall.cross(8, 2, 99, 5);
        Calls.chains(hall, 7, 0, 1, 7, 6, 5, 4, 3, 10, 8);
    }

    /** "below the permitted name, and not below the excluded name". */
    private static void permittedAndExcluded() {
        int[][] rules = {{12, 0, 12, 1}, {12, 0, 1234, 1}, {12, 0, 1, 0}, {12, 0, 13, 0},
            {12, 0, 112, 0}, {0, 12, 12, 0}, {0, 12, 129, 0}, {0, 12, 1, 1}, {0, 12, 13, 1},
            {1, 12, 13, 1}, {1, 12, 121, 0}, {1, 12, 2, 0}, {12, 1, 12, 0}, {3, 3, 3, 0},
            {9999, 0, 9999, 1}, {0, 9999, 999, 1}, {0, 9999, 9999, 0}, {0, 0, 5, 1}};
        for (int[] rule : rules) {
            Certhold hall = new Certhold();
            hall.makeRoot(1, 99, 5);
            hall.setNames(0, rule[0], rule[1]);
            hall.trust(0, true);
            hall.issue(0, rule[2], 99);
            if (rule[3] == 1) {
                Calls.chains(hall, 1, 0, 1, 1, 0);
            } else {
                Calls.chains(hall, 1, 0, 0);
            }
        }
    }

    /** "The name of each certificate of the chain": not of the first one alone. */
    private static void namesOfAllBefore() {
        for (int wrong = 0; wrong <= 4; wrong++) {
            Certhold hall = new Certhold();
            hall.makeRoot(1, 99, 5);
            hall.setNames(0, 2, 29);
            hall.trust(0, true);
            for (int number = 1; number <= 4; number++) {
                hall.issueAuthority(number - 1, number == wrong ? 29 : 2, 99, 5);
            }
            if (wrong == 0) {
                Calls.chains(hall, 4, 0, 1, 4, 3, 2, 1, 0);
            } else {
                Calls.chains(hall, 4, 0, 0);
            }
        }
    }

    /** "of each certificate behind it": neither its own names nor those before it bind it. */
    private static void namesBehindAlone() {
        Certhold hall = new Certhold();
        hall.makeRoot(3, 99, 5);
        hall.trust(0, true);
        hall.issueAuthority(0, 1, 99, 5);
        hall.setNames(1, 2, 1);
        hall.issueAuthority(1, 2, 99, 5);
        hall.setNames(2, 5, 2);
        // The first one's own names, then those of one in the middle.
        Calls.chains(hall, 2, 0, 1, 2, 1, 0);
        Calls.chains(hall, 1, 0, 1, 1, 0);
        hall.issue(2, 5, 99);
        Calls.chains(hall, 3, 0, 0);
    }

    /** "each certificate behind it in the chain that has one": the nearest and the farthest. */
    private static void namesOfEachBehind() {
        for (int place = 0; place <= 4; place++) {
            Certhold hall = new Certhold();
            hall.makeRoot(1, 99, 5);
            hall.trust(0, true);
            for (int number = 0; number <= 3; number++) {
                hall.setNames(number, 0, number == place ? 12 : 0);
                hall.issueAuthority(number, 1, 99, 5);
            }
            hall.setNames(4, 0, place == 4 ? 12 : 0);
            hall.issue(4, 12, 99);
            hall.issue(4, 1, 99);
            Calls.chains(hall, 5, 0, 0);
            Calls.chains(hall, 6, 0, 1, 6, 4, 3, 2, 1, 0);
        }
    }

    /** "The root is trusted." */
    private static void rootIsTrusted() {
        Certhold hall = tower(1);
        Calls.chains(hall, 1, 0, 1, 1, 0);
        hall.trust(0, false);
        Calls.chains(hall, 1, 0, 0);
        Calls.chains(hall, 0, 0, 0);
        hall.trust(0, true);
        Calls.chains(hall, 1, 0, 1, 1, 0);
    }

    /** "roots can stand in its middle, too": the last one's trust alone counts. */
    private static void trustInTheMiddle() {
        Certhold hall = tower(1);
        hall.makeRoot(2, 99, 5);
        hall.cross(2, 0, 99, 5);
        hall.trust(0, false);
        hall.trust(2, true);
        // By the root 0, and past it.
        Calls.chains(hall, 1, 0, 2, 1, 3, 2);
        Calls.due(2, hall, "goodChains", 1, 0);
        Calls.chains(hall, 0, 0, 1, 0, 3, 2);
        hall.trust(0, true);
        hall.trust(2, false);
        Calls.chains(hall, 1, 0, 1, 1, 0);
        hall.trust(2, true);
        Calls.chains(hall, 1, 0, 3, 1, 0);
        // A root in the middle is judged like the others.
        hall.trust(0, false);
        hall.pass(98);
        Calls.chains(hall, 1, 98, 2, 1, 3, 2);
    }

    /** "the good one with the fewest certificates". */
    private static void fewestCertificates() {
        Certhold hall = tower(3);
        hall.issue(3, 1, 99);
        Calls.chains(hall, 4, 0, 1, 4, 3, 2, 1, 0);
        hall.makeRoot(2, 99, 5);
        hall.cross(5, 2, 99, 5);
        hall.trust(5, true);
        Calls.chains(hall, 4, 0, 2, 4, 3, 6, 5);
        hall.cross(5, 3, 99, 5);
        Calls.chains(hall, 4, 0, 3, 4, 7, 5);
        hall.revoke(7);
        hall.publish(5);
        Calls.chains(hall, 4, 0, 2, 4, 3, 6, 5);
    }

    /** "the one that has the lower number where they first differ". */
    private static void lowerNumberWhereTheyFirstDiffer() {
        Certhold hall = new Certhold();
        for (int number = 0; number < 3; number++) {
            hall.makeRoot(1, 99, 5);
            hall.trust(number, true);
        }
        hall.issueAuthority(2, 1, 99, 5);
        hall.cross(1, 3, 99, 5);
        hall.cross(0, 3, 99, 5);
        hall.issue(5, 1, 99);
        // 6 3 2, 6 4 1 and 6 5 0: where they first differ, 3 is the lowest.
        Calls.chains(hall, 6, 0, 3, 6, 3, 2);
        hall.trust(2, false);
        Calls.chains(hall, 6, 0, 2, 6, 4, 1);
        hall.trust(1, false);
        Calls.chains(hall, 6, 0, 1, 6, 5, 0);
        lowerNumberBehind();
    }

    /** They differ at the third certificate only, and then at the last one the other way round. */
    private static void lowerNumberBehind() {
        Certhold hall = new Certhold();
        for (int number = 0; number < 2; number++) {
            hall.makeRoot(1, 99, 5);
            hall.trust(number, true);
        }
        hall.issueAuthority(1, 1, 99, 5);
        hall.cross(0, 2, 99, 5);
        hall.issueAuthority(3, 1, 99, 5);
        hall.issue(4, 1, 99);
        Calls.chains(hall, 5, 0, 2, 5, 4, 2, 1);
        hall.revoke(2);
        hall.publish(1);
        Calls.chains(hall, 5, 0, 1, 5, 4, 3, 0);
    }

    /** A chain with fewer certificates is better, though its numbers are higher. */
    private static void fewestBeforeLower() {
        Certhold hall = tower(2);
        hall.makeRoot(1, 99, 5);
        hall.trust(3, true);
        hall.cross(3, 2, 99, 5);
        hall.issue(2, 1, 99);
        // 5 2 1 0 is found first, and 5 4 3 is shorter.
        Calls.chains(hall, 5, 0, 2, 5, 4, 3);
        hall.cross(3, 2, 99, 5);
        Calls.chains(hall, 5, 0, 3, 5, 4, 3);
    }

    /** What is not good is no better one: each of the lower numbers is refused for something. */
    private static void lowerOneThatIsNotGood() {
        Certhold hall = new Certhold();
        hall.makeRoot(1, 5, 5);
        hall.makeRoot(1, 99, 5);
        hall.trust(0, true);
        hall.trust(1, true);
        hall.issueAuthority(0, 1, 99, 5);
        hall.cross(1, 2, 99, 5);
        hall.cross(1, 2, 99, 0);
        hall.issue(4, 1, 99);
        Calls.chains(hall, 5, 4, 3, 5, 2, 0);
        Calls.chains(hall, 5, 5, 2, 5, 3, 1);
        hall.revoke(3);
        hall.pass(6);
        hall.publish(1);
        Calls.chains(hall, 5, 5, 2, 5, 3, 1);
        Calls.chains(hall, 5, 6, 1, 5, 4, 1);
    }

    /** "has no certificate twice": where authorities cross each other in a ring. */
    private static void noCertificateTwice() {
        Certhold hall = new Certhold();
        hall.makeRoot(1, 99, 5);
        hall.makeRoot(1, 99, 5);
        hall.cross(1, 0, 99, 5);
        hall.cross(0, 1, 99, 5);
        hall.trust(0, true);
        hall.trust(1, true);
        hall.issue(0, 1, 99);
        // 4 0, 4 2 1, 4 0 2 1, 4 2 3 0 and 4 2 1 3 0; from 4 0 2 3 there is 0 again alone.
        Calls.chains(hall, 4, 0, 5, 4, 0);
        Calls.chains(hall, 2, 0, 3, 2, 1);
        Calls.chains(hall, 0, 0, 2, 0);
    }

    /** "whose name and key are those of the issuer": a name alone is not enough. */
    private static void sameNameOtherKey() {
        Certhold hall = new Certhold();
        hall.makeRoot(1, 99, 5);
        hall.makeRoot(1, 99, 5);
        hall.issue(0, 1, 99);
        hall.trust(1, true);
        Calls.chains(hall, 2, 0, 0);
        hall.trust(0, true);
        Calls.chains(hall, 2, 0, 1, 2, 0);
    }

    /** Three certificates of each key, all of which lead to the root: 3 times 3 times ... */
    private static void manyChains() {
        Certhold hall = new Certhold();
        hall.makeRoot(1, 99, 5);
        hall.trust(0, true);
        int good = 1;
        for (int level = 0; level < 5; level++) {
            int below = 3 * level;
            hall.issueAuthority(below, 1, 99, 5);
            hall.cross(below, below + 1, 99, 5);
            hall.cross(below, below + 1, 99, 5);
            good *= 3;
        }
        int first = hall.issue(15, 1, 99);
        Calls.chains(hall, first, 0, good, 16, 13, 10, 7, 4, 1, 0);
        // One level more, and all chains have 8 certificates.
        hall.issueAuthority(15, 1, 99, 5);
        hall.issue(17, 1, 99);
        Calls.chains(hall, 18, 0, 0);
        Calls.chains(hall, 17, 0, good, 17, 13, 10, 7, 4, 1, 0);
        // Two more for the root, by a root that is not trusted yet, then is.
        hall.makeRoot(1, 99, 5);
        hall.cross(19, 0, 99, 5);
        hall.cross(19, 0, 99, 5);
        Calls.chains(hall, 15, 0, 81, 15, 10, 7, 4, 1, 0);
        hall.trust(19, true);
        // By each of both crossed ones to 19, and by the root 0 and one of them would be 8.
        Calls.chains(hall, 15, 0, 3 * 81, 15, 10, 7, 4, 1, 0);
        Calls.chains(hall, 12, 0, 27 * 5, 12, 7, 4, 1, 0);
        hall.trust(0, false);
        Calls.chains(hall, 15, 0, 2 * 81, 15, 10, 7, 4, 1, 20, 19);
        Calls.chains(hall, 12, 0, 27 * 4, 12, 7, 4, 1, 20, 19);
    }

    /** "if day is less than 0": 0 is a day, and so is the greatest number. */
    private static void daysThatAreAsked() {
        Certhold hall = tower(1);
        Calls.chains(hall, 1, 0, 1, 1, 0);
        Calls.chains(hall, 1, 98, 1, 1, 0);
        Calls.chains(hall, 1, 99, 0);
        Calls.chains(hall, 1, MOST, 0);
        hall.pass(999);
        // The day of the question counts, not today.
        Calls.chains(hall, 1, 98, 1, 1, 0);
    }

    /** Each call asks for its own certificate and day, whatever the call before it asked for. */
    private static void noCallByAnother() {
        String[] names = {"chainSize", "goodChains", "goodChainsByWalks"};
        for (String before : names) {
            for (String name : names) {
                // 6 3 2 1 0, and to the end of day 8 also 6 3 5 4.
                Certhold hall = tower(3);
                hall.makeRoot(2, 9, 5);
                hall.trust(4, true);
                hall.cross(4, 2, 99, 5);
                hall.issue(3, 1, 99);
                boolean isSize = name.equals("chainSize");
                Calls.answer(hall, before, 0, 0);
                Calls.due(isSize ? 5 : 1, hall, name, 6, 9);
                Calls.answer(hall, before, 0, 0);
                Calls.due(isSize ? 4 : 2, hall, name, 6, 8);
                Calls.answer(hall, before, 6, 8);
                Calls.due(1, hall, name, 4, 8);
                Calls.answer(hall, before, 6, 8);
                Calls.due(0, hall, name, 4, 9);
                Calls.due(0, hall, before, 6, 99);
                Calls.due(isSize ? 4 : 2, hall, name, 6, 0);
            }
        }
    }
}
