/** Promises 39 and 40: each boundary that a sentence names. */
public final class MeansEdgesTest {
    public static void main(String[] arguments) {
        noCertificates();
        firstAndLastDay();
        effectAndMark();
        sharesOfFloats();
        allOrNone();
        noChain();
        meanOfThoseThatHaveOne();
        chainsOfToday();
        fullHall();
        Calls.end();
    }

    /** "if there are no certificates", "if no certificate has one". */
    private static void noCertificates() {
        Certhold hall = new Certhold();
        Calls.due(Calls.ARITHMETIC, hall, "soundShare");
        Calls.due(Calls.ARITHMETIC, hall, "meanChain");
        hall.pass(1);
        Calls.due(Calls.ARITHMETIC, hall, "soundShare");
        hall.makeRoot(1, 1, 0);
        Calls.due(1.0f, hall, "soundShare");
        Calls.due(Calls.ARITHMETIC, hall, "meanChain");
    }

    /** "valid today". */
    private static void firstAndLastDay() {
        Certhold hall = new Certhold();
        hall.pass(4);
        hall.makeRoot(1, 2, 0);
        Calls.due(1.0f, hall, "soundShare");
        hall.pass(1);
        Calls.due(1.0f, hall, "soundShare");
        hall.pass(1);
        Calls.due(0.0f, hall, "soundShare");
    }

    /** "of which no revocation has taken effect": a mark alone is none. */
    private static void effectAndMark() {
        Certhold hall = new Certhold();
        hall.makeRoot(1, 9, 0);
        hall.issue(0, 1, 9);
        hall.revoke(1);
        Calls.due(1.0f, hall, "soundShare");
        hall.publish(0);
        Calls.due(0.5f, hall, "soundShare");
        hall.pass(1);
        Calls.due(0.5f, hall, "soundShare");
    }

    /** "their number divided by that of all, both converted to float". */
    private static void sharesOfFloats() {
        Certhold hall = new Certhold();
        hall.makeRoot(1, 999, 0);
        for (int all = 2; all <= 40; all++) {
            hall.issue(0, 1, 1);
        }
        Calls.due(1.0f, hall, "soundShare");
        hall.pass(1);
        Calls.due(1.0f / 40.0f, hall, "soundShare");
        Certhold other = new Certhold();
        other.makeRoot(1, 999, 0);
        other.issue(0, 1, 1);
        other.issue(0, 1, 1);
        other.pass(1);
        Calls.due(1.0f / 3.0f, other, "soundShare");
    }

    private static void allOrNone() {
        Certhold hall = new Certhold();
        for (int all = 1; all <= 40; all++) {
            hall.makeRoot(1, 9, 0);
            Calls.due(1.0f, hall, "soundShare");
        }
        hall.pass(9);
        Calls.due(0.0f, hall, "soundShare");
    }

    /** "if no certificate has one": the root is not trusted, or not valid today. */
    private static void noChain() {
        Certhold hall = new Certhold();
        hall.makeRoot(1, 9, 5);
        hall.issue(0, 1, 99);
        Calls.due(Calls.ARITHMETIC, hall, "meanChain");
        hall.trust(0, true);
        Calls.due(1.5, hall, "meanChain");
        hall.pass(8);
        Calls.due(1.5, hall, "meanChain");
        hall.pass(1);
        Calls.due(Calls.ARITHMETIC, hall, "meanChain");
    }

    /** "the sum of the sizes divided by the number of these certificates". */
    private static void meanOfThoseThatHaveOne() {
        Certhold hall = new Certhold();
        hall.makeRoot(1, 9, 5);
        hall.trust(0, true);
        Calls.due(1.0, hall, "meanChain");
        hall.makeRoot(1, 9, 5);
        hall.issue(1, 1, 9);
        Calls.due(1.0, hall, "meanChain");
        hall.issue(0, 1, 9);
        hall.issue(0, 1, 9);
        Calls.due(5.0 / 3.0, hall, "meanChain");
        // By the crossed root, 5, the root 1 and the certificate 2 have one, too: 1 5 0 and 2 5 0.
        hall.cross(0, 1, 9, 5);
        Calls.due(13.0 / 6.0, hall, "meanChain");
    }

    /** "for today": a day before and a day after have other chains. */
    private static void chainsOfToday() {
        Certhold hall = new Certhold();
        hall.makeRoot(1, 9, 5);
        hall.trust(0, true);
        hall.issue(0, 1, 1);
        Calls.due(1.5, hall, "meanChain");
        hall.pass(1);
        Calls.due(1.0, hall, "meanChain");
        hall.issueAuthority(0, 1, 9, 0);
        hall.issue(2, 1, 9);
        Calls.due(2.0, hall, "meanChain");
        hall.revoke(2);
        Calls.due(2.0, hall, "meanChain");
        hall.publish(0);
        Calls.due(1.0, hall, "meanChain");
    }

    private static void fullHall() {
        Certhold hall = new Certhold();
        for (int number = 0; number < 6; number++) {
            hall.makeRoot(1, 9, 5);
            hall.trust(number, true);
        }
        for (int number = 6; number < 40; number++) {
            hall.issue(5, 1, 9);
        }
        Calls.due(74.0 / 40.0, hall, "meanChain");
        hall.trust(5, false);
        Calls.due(1.0, hall, "meanChain");
    }
}
