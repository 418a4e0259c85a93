/** Promises 12 to 18, 21 and 22: what certificates tell, names, and candidates. */
public final class LookingTest {
    public static void main(String[] arguments) {
        certificates();
        isBelow();
        candidates();
        Calls.end();
    }

    private static void certificates() {
        Certhold hall = new Certhold();
        String[] tellers = {"nameOf", "keyOf", "issuerKeyOf", "lastDayOf", "kindOf", "candidates"};
        for (String teller : tellers) {
            Calls.due(Calls.NO_SUCH, hall, teller, 0);
        }
        Calls.due(0, hall, "certificates");
        hall.makeRoot(7, 10, 0);
        Calls.due(1, hall, "certificates");
        hall.pass(100);
        hall.issueAuthority(0, 78, 20, 0);
        hall.issue(1, 789, 30);
        hall.makeRoot(8, 40, 0);
        hall.cross(3, 1, 50, 0);
        Calls.due(5, hall, "certificates");
        int[] wrong = {-1, 5, 40, 41, Integer.MIN_VALUE, Integer.MAX_VALUE};
        for (String teller : tellers) {
            for (int number : wrong) {
                Calls.due(Calls.NO_SUCH, hall, teller, number);
            }
        }
        all(hall, "nameOf", 7, 78, 789, 8, 78);
        all(hall, "keyOf", 1, 2, 3, 4, 2);
        all(hall, "issuerKeyOf", 1, 1, 2, 4, 4);
        all(hall, "lastDayOf", 9, 119, 129, 139, 149);
        all(hall, "kindOf", 'r', 'a', 'e', 'r', 'a');
    }

    private static void all(Certhold hall, String teller, Object... wants) {
        for (int number = 0; number < wants.length; number++) {
            Calls.due(wants[number], hall, teller, number);
        }
    }

    private static void isBelow() {
        Certhold hall = new Certhold();
        int[][] below = {{1, 1}, {9999, 9999}, {12, 1}, {1234, 1}, {1234, 12}, {1234, 123},
            {999, 99}, {111, 1}};
        for (int[] pair : below) {
            Calls.due(true, hall, "isBelow", pair[0], pair[1]);
        }
        int[][] notBelow = {{1, 12}, {21, 1}, {12, 2}, {1234, 13}, {1234, 234}, {124, 123},
            {123, 124}, {1, 2}, {2, 1}, {9, 9999}, {1111, 112}, {112, 1111}, {3, 29}, {31, 29}};
        for (int[] pair : notBelow) {
            Calls.due(false, hall, "isBelow", pair[0], pair[1]);
        }
        int[] wrong = {0, 10, 101, 110, 1000, 1101, 10000, 11111, 99999, -1, -11,
            Integer.MIN_VALUE, Integer.MAX_VALUE};
        for (int name : wrong) {
            Calls.due(Calls.ARGUMENT, hall, "isBelow", name, 1);
            Calls.due(Calls.ARGUMENT, hall, "isBelow", 1, name);
            Calls.due(Calls.ARGUMENT, hall, "isBelow", name, name);
        }
    }

    private static void candidates() {
        Certhold hall = new Certhold();
        hall.makeRoot(1, 10, 0);
        Calls.due(0, hall, "candidates", 0);
        Calls.due(Calls.INDEX, hall, "candidateAt", 0, 0);
        hall.makeRoot(1, 10, 0);
        hall.issue(0, 1, 10);
        // The other root has the same name, but not the same key.
        Calls.candidates(hall, 2, 0);
        hall.cross(1, 0, 10, 0);
        Calls.candidates(hall, 2, 0, 3);
        Calls.candidates(hall, 0, 3);
        Calls.candidates(hall, 1);
        Calls.candidates(hall, 3, 1);
        hall.issueAuthority(1, 2, 10, 0);
        hall.cross(4, 0, 10, 0);
        Calls.candidates(hall, 2, 0, 3, 5);
        Calls.candidates(hall, 0, 3, 5);
        Calls.candidates(hall, 5, 4);
        // Neither time nor revocation takes a candidate away.
        hall.revoke(3);
        hall.publish(1);
        hall.pass(999);
        Calls.candidates(hall, 2, 0, 3, 5);
        hall.issue(3, 11, 1);
        Calls.candidates(hall, 6, 0, 3, 5);
        Calls.due(Calls.NO_SUCH, hall, "candidateAt", 7, -1);
        Calls.due(Calls.NO_SUCH, hall, "candidateAt", -1, 0);
    }
}
