/** Halls in which calls are refused: without certificates, with some of each kind, and full. */
final class Halls {
    /** The number of certificates of some(). */
    static final int SOME = 11;

    private Halls() {
    }

    static Certhold empty() {
        return new Certhold();
    }

    /**
     * Roots 0, 1 and 8, the last of which has issued nothing; authorities 2, 3 and 7; 4, which is
     * 2 crossed; 5, which is marked; 6, whose revocation has taken effect; 9 and 10, which are 1
     * crossed. It is day 3, and a walk has gone from 7 to 2.
     */
    static Certhold some() {
        Certhold hall = new Certhold();
        hall.makeRoot(1, 20, 5);
        hall.makeRoot(2, 20, 5);
        hall.setNames(1, 0, 29);
        hall.issueAuthority(0, 1, 20, 5);
        hall.issueAuthority(1, 2, 20, 4);
        hall.cross(1, 2, 20, 5);
        hall.issue(2, 11, 20);
        hall.issue(2, 12, 20);
        hall.issueAuthority(4, 13, 20, 0);
        hall.makeRoot(3, 20, 1);
        hall.setNames(8, 3, 33);
        hall.cross(0, 1, 20, 3);
        hall.cross(0, 1, 20, 3);
        hall.trust(0, true);
        hall.trust(1, true);
        hall.revoke(6);
        hall.pass(3);
        hall.publish(2);
        hall.revoke(5);
        hall.begin(7, 3);
        hall.step(0);
        return hall;
    }

    /** The same with as many more certificates as there may be. */
    static Certhold full() {
        Certhold hall = some();
        for (int number = SOME; number < 40; number++) {
            hall.issue(0, 1, 20);
        }
        return hall;
    }
}
