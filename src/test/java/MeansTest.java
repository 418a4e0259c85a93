/** Promises 39 and 40: the share of sound certificates and the mean size of best chains. */
public final class MeansTest {
    public static void main(String[] arguments) {
        soundShare();
        meanChain();
        Calls.end();
    }

    private static void soundShare() {
        Certhold hall = new Certhold();
        Calls.due(Calls.ARITHMETIC, hall, "soundShare");
        hall.makeRoot(1, 10, 5);
        Calls.due(1.0f, hall, "soundShare");
        hall.issue(0, 1, 5);
        hall.issue(0, 1, 1);
        Calls.due(1.0f, hall, "soundShare");
        hall.pass(1);
        Calls.due(2.0f / 3.0f, hall, "soundShare");
        hall.revoke(1);
        Calls.due(2.0f / 3.0f, hall, "soundShare");
        hall.publish(0);
        Calls.due(1.0f / 3.0f, hall, "soundShare");
        // What is neither valid nor free of a revocation is left out once.
        hall.revoke(2);
        hall.publish(0);
        Calls.due(1.0f / 3.0f, hall, "soundShare");
        hall.pass(8);
        Calls.due(1.0f / 3.0f, hall, "soundShare");
        hall.pass(1);
        Calls.due(0.0f, hall, "soundShare");
    }

    private static void meanChain() {
        Certhold hall = new Certhold();
        Calls.due(Calls.ARITHMETIC, hall, "meanChain");
        hall.makeRoot(1, 10, 5);
        Calls.due(Calls.ARITHMETIC, hall, "meanChain");
        hall.trust(0, true);
        Calls.due(1.0, hall, "meanChain");
        hall.issueAuthority(0, 1, 10, 5);
        Calls.due(1.5, hall, "meanChain");
        hall.issue(1, 1, 5);
        hall.issue(1, 1, 5);
        hall.makeRoot(2, 10, 5);
        hall.issue(4, 1, 10);
        // Those below the other root have no chain and do not count.
        Calls.due(9.0 / 4.0, hall, "meanChain");
        hall.issue(0, 1, 2);
        hall.issue(0, 1, 2);
        hall.issue(0, 1, 2);
        Calls.due(15.0 / 7.0, hall, "meanChain");
        hall.pass(4);
        Calls.due(9.0 / 4.0, hall, "meanChain");
        hall.pass(1);
        Calls.due(1.5, hall, "meanChain");
        hall.trust(4, true);
        Calls.due(1.5, hall, "meanChain");
        hall.trust(0, false);
        Calls.due(1.5, hall, "meanChain");
        hall.pass(4);
        Calls.due(1.5, hall, "meanChain");
        hall.pass(1);
        Calls.due(Calls.ARITHMETIC, hall, "meanChain");
    }
}
