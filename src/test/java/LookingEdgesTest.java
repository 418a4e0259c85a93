/** Promises 12 to 17, 21 and 22, and what their words mean: each boundary that is named. */
public final class LookingEdgesTest {
    public static void main(String[] arguments) {
        certificatesFromFirstToLast();
        kinds();
        ranksOfCandidates();
        candidatesOfAFullHall();
        Calls.end();
    }

    /** Two roots of one name; below the first one the authority 2, and 3 and 4, which are none. */
    private static Certhold hall() {
        Certhold hall = new Certhold();
        hall.makeRoot(1, 99, 5);
        hall.makeRoot(1, 99, 5);
        hall.issueAuthority(0, 1, 99, 5);
        hall.issue(0, 1, 99);
        hall.issue(0, 1, 99);
        return hall;
    }

    /** "if there is no such certificate": 0 and n - 1 are there, -1 and n are not. */
    private static void certificatesFromFirstToLast() {
        Certhold hall = new Certhold();
        hall.makeRoot(7, 3, 0);
        hall.pass(2);
        hall.issue(0, 78, 5);
        Object[][] first = {{"nameOf", 7}, {"keyOf", 1}, {"issuerKeyOf", 1}, {"lastDayOf", 2},
            {"kindOf", 'r'}, {"candidates", 0}};
        Object[] last = {78, 2, 1, 6, 'e', 1};
        for (int i = 0; i < last.length; i++) {
            String name = (String) first[i][0];
            Calls.due(first[i][1], hall, name, 0);
            Calls.due(last[i], hall, name, 1);
            Calls.due(Calls.NO_SUCH, hall, name, 2);
            Calls.due(Calls.NO_SUCH, hall, name, -1);
        }
    }

    /** "'r' for a root, 'a' for another authority, 'e' for others". */
    private static void kinds() {
        Certhold hall = hall();
        hall.cross(0, 1, 9, 0);
        char[] kinds = {'r', 'r', 'a', 'e', 'e', 'a'};
        for (int number = 0; number < kinds.length; number++) {
            Calls.due(kinds[number], hall, "kindOf", number);
        }
        // Neither trust nor revocation nor days make another kind of it.
        hall.trust(0, true);
        hall.revoke(2);
        hall.publish(0);
        hall.pass(999);
        Calls.due('r', hall, "kindOf", 0);
        Calls.due('a', hall, "kindOf", 2);
    }

    /** "all those whose name and key are those of its issuer, but itself, in ascending order". */
    private static void ranksOfCandidates() {
        Certhold hall = hall();
        Calls.candidates(hall, 0);
        Calls.candidates(hall, 2, 0);
        hall.cross(1, 0, 9, 0);
        Calls.candidates(hall, 0, 5);
        Calls.candidates(hall, 2, 0, 5);
        Calls.candidates(hall, 5, 1);
        hall.cross(2, 0, 9, 0);
        Calls.candidates(hall, 0, 5, 6);
        Calls.candidates(hall, 2, 0, 5, 6);
        Calls.candidates(hall, 6, 2);
        Calls.candidates(hall, 5, 1);
        Calls.candidates(hall, 1);
    }

    private static void candidatesOfAFullHall() {
        Certhold hall = hall();
        for (int number = 5; number < 38; number++) {
            hall.issue(1, 1, 9);
        }
        hall.cross(1, 2, 9, 0);
        hall.cross(2, 1, 9, 0);
        Calls.candidates(hall, 37, 1, 39);
        Calls.candidates(hall, 39, 2, 38);
        Calls.candidates(hall, 38, 1, 39);
        Calls.candidates(hall, 1, 39);
    }
}
