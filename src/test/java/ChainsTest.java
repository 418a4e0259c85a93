/** Promises 23 to 26: the best chain and the number of good chains, each condition by itself. */
public final class ChainsTest {
    public static void main(String[] arguments) {
        arguments();
        roots();
        validity();
        revocation();
        lengths();
        names();
        bestIsShortest();
        bestHasLowerNumbers();
        loops();
        rootsInTheMiddle();
        eachCallByItself();
        Calls.end();
    }

    private static void arguments() {
        Certhold hall = new Certhold();
        hall.makeRoot(1, 10, 0);
        hall.trust(0, true);
        for (String asked : new String[] {"chainSize", "goodChains", "goodChainsByWalks"}) {
            Calls.due(Calls.NO_SUCH, hall, asked, 1, -1);
            Calls.due(Calls.NO_SUCH, hall, asked, -1, 0);
            Calls.due(Calls.ARGUMENT, hall, asked, 0, -1);
            Calls.due(Calls.ARGUMENT, hall, asked, 0, Integer.MIN_VALUE);
            Calls.due(0, hall, asked, 0, Integer.MAX_VALUE);
            Calls.due(1, hall, asked, 0, 0);
        }
        Calls.due(Calls.NO_SUCH, hall, "chainAt", 1, -1, -1);
        Calls.due(Calls.ARGUMENT, hall, "chainAt", 0, -1, -1);
        Calls.due(Calls.INDEX, hall, "chainAt", 0, 0, Integer.MAX_VALUE);
        Calls.due(Calls.INDEX, hall, "chainAt", 0, 0, Integer.MIN_VALUE);
        Calls.due(Calls.INDEX, hall, "chainAt", 0, 10, 0);
    }

    private static void roots() {
        Certhold hall = new Certhold();
        hall.makeRoot(1, 10, 0);
        hall.issueAuthority(0, 1, 10, 0);
        hall.issue(0, 2, 10);
        Calls.chains(hall, 0, 0, 0);
        Calls.chains(hall, 2, 0, 0);
        hall.trust(0, true);
        Calls.chains(hall, 0, 0, 1, 0);
        Calls.chains(hall, 1, 0, 1, 1, 0);
        Calls.chains(hall, 2, 0, 1, 2, 0);
        hall.trust(0, false);
        Calls.chains(hall, 1, 0, 0);
    }

    private static void validity() {
        Certhold hall = new Certhold();
        hall.makeRoot(1, 10, 5);
        hall.trust(0, true);
        hall.pass(2);
        hall.issueAuthority(0, 1, 4, 5);
        hall.pass(1);
        hall.issue(1, 1, 5);
        Calls.chains(hall, 0, 0, 1, 0);
        Calls.chains(hall, 0, 9, 1, 0);
        Calls.chains(hall, 0, 10, 0);
        Calls.chains(hall, 1, 1, 0);
        Calls.chains(hall, 1, 2, 1, 1, 0);
        Calls.chains(hall, 1, 5, 1, 1, 0);
        Calls.chains(hall, 1, 6, 0);
        // The first certificate and those behind it are judged alike.
        Calls.chains(hall, 2, 2, 0);
        Calls.chains(hall, 2, 3, 1, 2, 1, 0);
        Calls.chains(hall, 2, 5, 1, 2, 1, 0);
        Calls.chains(hall, 2, 6, 0);
        hall.pass(6);
        hall.issueAuthority(0, 1, 99, 5);
        Calls.chains(hall, 3, 9, 1, 3, 0);
        Calls.chains(hall, 3, 10, 0);
    }

    private static void revocation() {
        Certhold hall = new Certhold();
        hall.makeRoot(1, 100, 5);
        hall.trust(0, true);
        hall.issueAuthority(0, 1, 100, 5);
        hall.issue(1, 1, 100);
        hall.issue(1, 2, 100);
        hall.revoke(2);
        Calls.chains(hall, 2, 0, 1, 2, 1, 0);
        hall.pass(5);
        hall.publish(1);
        Calls.chains(hall, 2, 4, 1, 2, 1, 0);
        Calls.chains(hall, 2, 5, 0);
        Calls.chains(hall, 2, 6, 0);
        Calls.chains(hall, 3, 6, 1, 3, 1, 0);
        hall.revoke(1);
        hall.pass(5);
        hall.publish(0);
        Calls.chains(hall, 3, 9, 1, 3, 1, 0);
        Calls.chains(hall, 3, 10, 0);
        Calls.chains(hall, 2, 4, 1, 2, 1, 0);
        Calls.chains(hall, 1, 10, 0);
        Calls.chains(hall, 0, 10, 1, 0);
    }

    private static void lengths() {
        // One authority below the other, each with the least length that is enough.
        Certhold hall = new Certhold();
        hall.makeRoot(1, 10, 5);
        hall.trust(0, true);
        for (int length = 4; length >= 0; length--) {
            hall.issueAuthority(4 - length, 1, 10, length);
        }
        hall.issue(5, 1, 10);
        Calls.chains(hall, 6, 0, 1, 6, 5, 4, 3, 2, 1, 0);
        // One more is too many for the root, and for each of them.
        hall.issueAuthority(5, 1, 10, 0);
        Calls.chains(hall, 7, 0, 1, 7, 5, 4, 3, 2, 1, 0);
        hall.issue(7, 1, 10);
        Calls.chains(hall, 8, 0, 0);
        // The length of the first one is not asked for.
        Certhold other = new Certhold();
        other.makeRoot(1, 10, 1);
        other.trust(0, true);
        other.issueAuthority(0, 1, 10, 0);
        other.issueAuthority(1, 1, 10, 0);
        Calls.chains(other, 2, 0, 1, 2, 1, 0);
        other.issue(2, 1, 10);
        Calls.chains(other, 3, 0, 0);
    }

    private static void names() {
        Certhold hall = new Certhold();
        hall.makeRoot(1, 10, 5);
        hall.setNames(0, 1, 15);
        hall.trust(0, true);
        hall.issueAuthority(0, 1, 10, 5);
        hall.setNames(1, 0, 12);
        hall.issue(1, 11, 10);
        hall.issue(1, 2, 10);
        hall.issue(1, 1512, 10);
        hall.issue(1, 123, 10);
        hall.issue(1, 12, 10);
        hall.issue(0, 123, 10);
        hall.issueAuthority(0, 2, 10, 5);
        hall.issue(8, 11, 10);
        Calls.chains(hall, 2, 0, 1, 2, 1, 0);
        Calls.chains(hall, 3, 0, 0);
        Calls.chains(hall, 4, 0, 0);
        Calls.chains(hall, 5, 0, 0);
        Calls.chains(hall, 6, 0, 0);
        Calls.chains(hall, 7, 0, 1, 7, 0);
        // The root permits no 2, wherever it stands before it.
        Calls.chains(hall, 9, 0, 0);
        ownNames();
    }

    /** A certificate's own names bind those before it alone. */
    private static void ownNames() {
        Certhold hall = new Certhold();
        hall.makeRoot(1, 10, 5);
        hall.setNames(0, 2, 1);
        hall.trust(0, true);
        Calls.chains(hall, 0, 0, 1, 0);
        hall.issueAuthority(0, 2, 10, 5);
        hall.setNames(1, 22, 2);
        Calls.chains(hall, 1, 0, 1, 1, 0);
        hall.issue(1, 22, 10);
        Calls.chains(hall, 2, 0, 0);
    }

    private static void bestIsShortest() {
        Certhold hall = new Certhold();
        hall.makeRoot(1, 10, 5);
        hall.issueAuthority(0, 1, 10, 5);
        hall.issueAuthority(1, 1, 10, 5);
        hall.issue(2, 1, 10);
        hall.makeRoot(2, 10, 5);
        hall.cross(4, 2, 10, 5);
        hall.trust(0, true);
        Calls.chains(hall, 3, 0, 1, 3, 2, 1, 0);
        hall.trust(4, true);
        Calls.chains(hall, 3, 0, 2, 3, 5, 4);
        hall.revoke(5);
        hall.publish(4);
        Calls.chains(hall, 3, 0, 1, 3, 2, 1, 0);
    }

    private static void bestHasLowerNumbers() {
        Certhold hall = new Certhold();
        hall.makeRoot(1, 10, 5);
        hall.makeRoot(2, 10, 5);
        hall.makeRoot(3, 10, 5);
        hall.issueAuthority(2, 4, 10, 5);
        hall.cross(1, 3, 10, 5);
        hall.cross(0, 3, 10, 5);
        hall.issue(5, 44, 10);
        hall.trust(0, true);
        hall.trust(1, true);
        hall.trust(2, true);
        // 3, 4 and 5 stand first where they differ; the roots behind them come after.
        Calls.chains(hall, 6, 0, 3, 6, 3, 2);
        hall.trust(2, false);
        Calls.chains(hall, 6, 0, 2, 6, 4, 1);
        hall.trust(1, false);
        Calls.chains(hall, 6, 0, 1, 6, 5, 0);
    }

    private static void loops() {
        // Two authorities cross each other; no chain has a certificate twice.
        Certhold hall = new Certhold();
        hall.makeRoot(1, 10, 5);
        hall.makeRoot(2, 10, 5);
        hall.issueAuthority(0, 11, 10, 5);
        hall.issueAuthority(1, 22, 10, 5);
        hall.cross(3, 2, 10, 5);
        hall.cross(2, 3, 10, 5);
        hall.issue(2, 111, 10);
        hall.trust(0, true);
        // 6 2 0 and 6 4 5 2 0.
        Calls.chains(hall, 6, 0, 2, 6, 2, 0);
        hall.trust(1, true);
        // 6 4 3 1 as well; from 2, the way 2 0 alone.
        Calls.chains(hall, 6, 0, 3, 6, 2, 0);
        Calls.chains(hall, 2, 0, 1, 2, 0);
        // 4 3 1 and 4 5 2 0.
        Calls.chains(hall, 4, 0, 2, 4, 3, 1);
    }

    private static void rootsInTheMiddle() {
        Certhold hall = new Certhold();
        hall.makeRoot(1, 10, 5);
        hall.makeRoot(2, 10, 5);
        hall.cross(1, 0, 10, 5);
        hall.issue(0, 11, 10);
        hall.trust(1, true);
        // Through the root that is not trusted, or past it.
        Calls.chains(hall, 3, 0, 2, 3, 2, 1);
        Calls.chains(hall, 0, 0, 1, 0, 2, 1);
        hall.trust(0, true);
        Calls.chains(hall, 3, 0, 3, 3, 0);
        Calls.chains(hall, 0, 0, 2, 0);
        hall.trust(1, false);
        Calls.chains(hall, 3, 0, 1, 3, 0);
    }

    /** No call is helped by what another one has found before it. */
    private static void eachCallByItself() {
        Certhold hall = new Certhold();
        hall.makeRoot(1, 10, 5);
        hall.trust(0, true);
        hall.issue(0, 1, 5);
        for (String asked : new String[] {"goodChains", "goodChainsByWalks"}) {
            Calls.due(1, hall, "chainSize", 0, 0);
            Calls.due(0, hall, asked, 1, 5);
            Calls.due(1, hall, "chainAt", 1, 0, 0);
            Calls.due(1, hall, asked, 0, 9);
            Calls.due(Calls.INDEX, hall, "chainAt", 1, 7, 0);
            Calls.due(1, hall, asked, 1, 4);
        }
        // A search leaves the walk alone.
        hall.begin(1, 0);
        hall.goodChains(0, 0);
        hall.chainSize(0, 0);
        hall.meanChain();
        Calls.due(1, hall, "reached");
        Calls.due('o', hall, "step", 0);
    }
}
