/** Promises 1 to 7 and 18, and what their words mean: each boundary that a sentence names. */
public final class MakingEdgesTest {
    private static final int[] NAMES = {1, 2, 9, 11, 19, 91, 99, 111, 119, 191, 911, 999, 1111,
        1119, 1191, 1911, 9111, 9991, 9919, 9199, 1999, 9999};
    private static final int[] DAYS = {1, 2, 998, 999};
    private static final String[] MAKERS = {"makeRoot", "issue", "issueAuthority", "cross"};

    public static void main(String[] arguments) {
        newHall();
        namesThatAreAllowed();
        eachNumberOfUpToFiveDigits();
        belowIsToBeginWith();
        daysThatAreAllowed();
        validFromThisDayOn();
        lengthsThatAreAllowed();
        lengthOfARootInAChain();
        numbersInOrder();
        fortiethCertificate();
        nextKey();
        rootIsItsOwnIssuer();
        rootIsNotTrusted();
        otherThanAuthorities();
        firstAndLastIssuer();
        crossedNameAndKey();
        ownIssuerMayNotCross();
        threeOfAKey();
        sameIssuerCrossesAgain();
        crossedOneHasNoNames();
        numberOfNames();
        keyThatHasIssued();
        namesUntilItIssues();
        refusedNames();
        trustedRoots();
        fortyTrustedRoots();
        manyCalls();
        Calls.end();
    }

    /** Two roots of the names 1 and 2, and the authority 2 below the first one, of the name 1. */
    private static Certhold hall() {
        Certhold hall = new Certhold();
        hall.makeRoot(1, 999, 5);
        hall.makeRoot(2, 999, 5);
        hall.issueAuthority(0, 1, 999, 5);
        return hall;
    }

    /** Makes a certificate in one of the four ways; root 1 is the issuer if there is one. */
    private static Object make(Certhold hall, String maker, int name, int days, int length) {
        switch (maker) {
            case "makeRoot":
                return Calls.answer(hall, maker, name, days, length);
            case "issue":
                return Calls.answer(hall, maker, 1, name, days);
            case "issueAuthority":
                return Calls.answer(hall, maker, 1, name, days, length);
            default:
                return Calls.answer(hall, maker, 1, 2, days, length);
        }
    }

    /** "Creates a hall without certificates", "It is day 0 at first". */
    private static void newHall() {
        Certhold hall = new Certhold();
        Calls.due(0, hall, "certificates");
        Calls.due(0, hall, "day");
        Calls.due(0, hall, "walked");
        Calls.due(false, hall, "isThrough");
        Calls.due(0, hall, "makeRoot", 1, 1, 0);
        Calls.due(1, hall, "keyOf", 0);
    }

    /** "A name is a number of 1 to 4 digits, none of which is 0": wherever a name is given. */
    private static void namesThatAreAllowed() {
        for (int i = 0; i < 3; i++) {
            Certhold hall = hall();
            for (int made = 0; made < NAMES.length; made++) {
                Calls.same(MAKERS[i] + " of the name " + NAMES[made], made + 3,
                        make(hall, MAKERS[i], NAMES[made], 1, 0));
                Calls.due(NAMES[made], hall, "nameOf", made + 3);
            }
        }
        Certhold hall = hall();
        for (int name : NAMES) {
            Calls.due(1, hall, "setNames", 1, name, 0);
            Calls.due(1, hall, "setNames", 1, 0, name);
            Calls.due(2, hall, "setNames", 1, name, 9999);
            Calls.due(true, hall, "isBelow", name, name);
        }
    }

    /** "each name is below itself"; what is no name is refused. */
    private static void eachNumberOfUpToFiveDigits() {
        Certhold hall = new Certhold();
        for (int number = -1; number <= 11200; number++) {
            hall = number % 500 == 0 ? new Certhold() : hall;
            boolean isName = Integer.toString(number).matches("[1-9]{1,4}");
            Calls.due(isName ? true : Calls.ARGUMENT, hall, "isBelow", number, number);
        }
    }

    /** "A name is below another one if its digits begin with those of the other one". */
    private static void belowIsToBeginWith() {
        int[] names = new int[120];
        int found = 0;
        for (int number = 1; number <= 9999; number++) {
            if (Integer.toString(number).matches("[129]{1,4}")) {
                names[found] = number;
                found++;
            }
        }
        for (int name : names) {
            Certhold hall = new Certhold();
            for (int other : names) {
                Calls.due(("" + name).startsWith("" + other), hall, "isBelow", name, other);
            }
        }
    }

    /** "days is not between 1 and 999": 1 and 999 are. */
    private static void daysThatAreAllowed() {
        for (String maker : MAKERS) {
            for (int days : DAYS) {
                Certhold hall = hall();
                Calls.same(maker + " for days " + days, 3, make(hall, maker, 5, days, 0));
                Calls.due(days - 1, hall, "lastDayOf", 3);
            }
        }
    }

    /** "the number of days on which it is valid, from this day on": the first and the last one. */
    private static void validFromThisDayOn() {
        for (String maker : MAKERS) {
            for (int days : DAYS) {
                Certhold hall = hall();
                hall.pass(7);
                make(hall, maker, 5, days, 0);
                Calls.due(6 + days, hall, "lastDayOf", 3);
                Calls.due('t', hall, "begin", 3, 6);
                Calls.due('o', hall, "begin", 3, 7);
                Calls.due('o', hall, "begin", 3, 6 + days);
                Calls.due('t', hall, "begin", 3, 7 + days);
            }
        }
    }

    /** "length is not between 0 and 5": a length says how many may stand between. */
    private static void lengthsThatAreAllowed() {
        for (String maker : new String[] {"makeRoot", "issueAuthority", "cross"}) {
            for (int length = 0; length <= 5; length++) {
                lengthBehind(maker, length, length, 'o');
                lengthBehind(maker, length, length + 1, 'l');
            }
        }
    }

    private static void lengthBehind(String maker, int length, int between, char due) {
        Certhold hall = hall();
        int top = (Integer) make(hall, maker, 2, 99, length);
        hall.begin(issueBelow(hall, top, between), 0);
        for (int step = 0; step < between; step++) {
            Calls.due('o', hall, "step", 0);
        }
        // The key of a crossed one is held by the certificate that was crossed, too.
        Calls.due(due, hall, "step", maker.equals("cross") ? 1 : 0);
        Calls.walk(hall, due == 'o' ? top : hall.reached(), between + (due == 'o' ? 2 : 1), false);
    }

    /** Issues so many authorities, each below the one before, and then what is none. */
    private static int issueBelow(Certhold hall, int top, int authorities) {
        int issuer = top;
        for (int made = 0; made < authorities; made++) {
            issuer = hall.issueAuthority(issuer, 1, 99, 5);
        }
        return hall.issue(issuer, 1, 99);
    }

    private static void lengthOfARootInAChain() {
        for (int length = 0; length <= 5; length++) {
            for (int between = 0; between <= 6; between++) {
                Certhold hall = new Certhold();
                hall.makeRoot(1, 99, length);
                hall.trust(0, true);
                int first = issueBelow(hall, 0, between);
                int size = between <= length ? between + 2 : 0;
                Calls.due(size, hall, "chainSize", first, 0);
                Calls.due(size > 0 ? 1 : 0, hall, "goodChains", first, 0);
                Calls.due(size > 0 ? 1 : 0, hall, "goodChainsByWalks", first, 0);
            }
        }
    }

    /** "the numbers 0 to n - 1 in the order in which they were made". */
    private static void numbersInOrder() {
        Certhold hall = hall();
        for (int number = 3; number < 7; number++) {
            Calls.due(number, hall, "certificates");
            Calls.same("the next number", number, make(hall, MAKERS[number - 3], 7, 1, 0));
            Calls.due(number + 1, hall, "certificates");
        }
    }

    /** "At most 40 certificates", "if there are 40 certificates": the 40th is made, no 41st. */
    private static void fortiethCertificate() {
        for (String maker : MAKERS) {
            Certhold hall = hall();
            for (int number = 3; number < 39; number++) {
                hall.issue(0, 1, 9);
            }
            Calls.same("the last number by " + maker, 39, make(hall, maker, 7, 9, 5));
            Calls.due(40, hall, "certificates");
            for (String again : MAKERS) {
                Calls.same("one too many by " + again, Calls.STATE, make(hall, again, 7, 9, 5));
            }
            Calls.due(40, hall, "certificates");
            Calls.due(8, hall, "lastDayOf", 39);
            Calls.due(Calls.NO_SUCH, hall, "lastDayOf", 40);
            Calls.due(hall.rootByProof(39, 40), hall, "rootOf", 40);
            Calls.due(Calls.ARGUMENT, hall, "rootOf", 41);
        }
    }

    /** "Each certificate but a crossed one gets a new key, the next one"; "from 1 on". */
    private static void nextKey() {
        Certhold hall = new Certhold();
        hall.makeRoot(1, 9, 5);
        hall.makeRoot(1, 9, 5);
        hall.issue(0, 1, 9);
        hall.cross(1, 0, 9, 5);
        hall.issueAuthority(3, 1, 9, 5);
        hall.cross(4, 1, 9, 5);
        hall.makeRoot(1, 9, 5);
        int[] keys = {1, 2, 3, 1, 4, 2, 5};
        int[] issuerKeys = {1, 2, 1, 2, 1, 4, 5};
        for (int number = 0; number < keys.length; number++) {
            Calls.due(keys[number], hall, "keyOf", number);
            Calls.due(issuerKeys[number], hall, "issuerKeyOf", number);
        }
    }

    /** "A root is an authority that has itself as its issuer". */
    private static void rootIsItsOwnIssuer() {
        Certhold hall = hall();
        Calls.due('r', hall, "kindOf", 0);
        Calls.due(1, hall, "issuerKeyOf", 0);
        Calls.due(0, hall, "candidates", 0);
        // A crossed root is another authority, and can't be trusted.
        hall.cross(0, 1, 9, 5);
        Calls.due('a', hall, "kindOf", 3);
        Calls.due(Calls.STATE, hall, "trust", 3, true);
        Calls.due(1, hall, "revoke", 3);
    }

    /** "Makes a root, which is not trusted". */
    private static void rootIsNotTrusted() {
        Certhold hall = new Certhold();
        hall.makeRoot(1, 9, 5);
        Calls.chains(hall, 0, 0, 0);
        hall.begin(0, 0);
        Calls.due(false, hall, "isThrough");
        Calls.due(0, hall, "trust", 0, false);
        hall.trust(0, true);
        hall.makeRoot(1, 9, 5);
        Calls.due(1, hall, "trust", 0, true);
        Calls.chains(hall, 1, 0, 0);
    }

    /** "Issues a certificate that is no authority", "Issues an authority". */
    private static void otherThanAuthorities() {
        Certhold hall = hall();
        hall.issue(0, 1, 9);
        hall.issueAuthority(0, 1, 9, 0);
        Calls.due('e', hall, "kindOf", 3);
        Calls.due('a', hall, "kindOf", 4);
        Calls.due(Calls.STATE, hall, "issue", 3, 1, 9);
        Calls.due(5, hall, "issue", 4, 1, 9);
        Calls.due(Calls.STATE, hall, "cross", 1, 3, 9, 0);
        Calls.due(6, hall, "cross", 1, 4, 9, 0);
        Calls.due(Calls.STATE, hall, "publish", 3);
        Calls.due(0, hall, "publish", 4);
        Calls.due(Calls.STATE, hall, "setNames", 3, 0, 0);
        Calls.due(7, hall, "issueAuthority", 0, 1, 9, 0);
        Calls.due(0, hall, "setNames", 7, 0, 0);
    }

    /** "if there is no such certificate": the first one and the last one are there. */
    private static void firstAndLastIssuer() {
        Certhold hall = hall();
        Calls.due(3, hall, "issue", 2, 1, 9);
        Calls.due(Calls.NO_SUCH, hall, "issue", 4, 1, 9);
        Calls.due(4, hall, "issueAuthority", 0, 1, 9, 5);
        Calls.due(5, hall, "issueAuthority", 4, 1, 9, 5);
        Calls.due(4, hall, "keyOf", 3);
        Calls.due(6, hall, "cross", 0, 5, 9, 5);
        Calls.due(7, hall, "cross", 6, 0, 9, 5);
        Calls.due(6, hall, "issuerKeyOf", 7);
        Calls.due(Calls.NO_SUCH, hall, "cross", 8, 0, 9, 5);
        Calls.due(Calls.NO_SUCH, hall, "cross", 0, 8, 9, 5);
    }

    /** "has the name and the key of an authority that there is already, but an issuer with ..." */
    private static void crossedNameAndKey() {
        Certhold hall = hall();
        hall.pass(3);
        Calls.due(3, hall, "cross", 1, 2, 9, 0);
        Calls.due(1, hall, "nameOf", 3);
        Calls.due(3, hall, "keyOf", 3);
        Calls.due(2, hall, "issuerKeyOf", 3);
        Calls.due(11, hall, "lastDayOf", 3);
        // The certificate that was crossed keeps its own issuer and days.
        Calls.due(1, hall, "issuerKeyOf", 2);
        Calls.due(998, hall, "lastDayOf", 2);
    }

    /** "the subject has the key of the issuer": even if it is another certificate. */
    private static void ownIssuerMayNotCross() {
        Certhold hall = hall();
        Calls.due(Calls.STATE, hall, "cross", 2, 2, 9, 5);
        Calls.due(3, hall, "cross", 1, 2, 9, 5);
        Calls.due(Calls.STATE, hall, "cross", 2, 3, 9, 5);
        Calls.due(Calls.STATE, hall, "cross", 3, 2, 9, 5);
        Calls.due(Calls.STATE, hall, "cross", 3, 3, 9, 5);
        // The same name is no hindrance: root 0 has the name of the authority.
        Calls.due(4, hall, "cross", 0, 2, 9, 5);
    }

    /** "three certificates have the key of the subject": the third is made, no fourth. */
    private static void threeOfAKey() {
        Certhold hall = hall();
        Calls.due(3, hall, "cross", 1, 2, 9, 5);
        Calls.due(4, hall, "cross", 1, 2, 9, 5);
        for (int subject = 2; subject <= 4; subject++) {
            Calls.due(Calls.STATE, hall, "cross", 1, subject, 9, 5);
            Calls.due(Calls.STATE, hall, "cross", 0, subject, 9, 5);
        }
        // Neither revocation nor days nor another key's certificates count.
        hall.revoke(3);
        hall.publish(1);
        hall.pass(100);
        Calls.due(Calls.STATE, hall, "cross", 1, 2, 9, 5);
        Calls.due(5, hall, "cross", 2, 1, 9, 5);
        Calls.due(6, hall, "cross", 4, 5, 9, 5);
        Calls.due(Calls.STATE, hall, "cross", 4, 1, 9, 5);
        Calls.due(7, hall, "cross", 4, 0, 9, 5);
    }

    /** "The same issuer can cross an authority more than once." */
    private static void sameIssuerCrossesAgain() {
        Certhold hall = hall();
        Calls.due(3, hall, "cross", 1, 0, 9, 5);
        Calls.due(4, hall, "cross", 1, 0, 5, 0);
        Calls.due(2, hall, "issuerKeyOf", 3);
        Calls.due(2, hall, "issuerKeyOf", 4);
        Calls.due(8, hall, "lastDayOf", 3);
        Calls.due(4, hall, "lastDayOf", 4);
    }

    /** "it has no permitted and no excluded name until they are set". */
    private static void crossedOneHasNoNames() {
        Certhold hall = hall();
        hall.setNames(2, 9, 1);
        hall.cross(1, 2, 99, 5);
        hall.cross(1, 2, 99, 5);
        Calls.due(2, hall, "setNames", 4, 12, 121);
        hall.issue(2, 12, 9);
        hall.trust(0, true);
        hall.trust(1, true);
        // Of 2, 3 and 4, the certificate 2 forbids the name, and the others don't.
        Calls.chains(hall, 5, 0, 2, 5, 3, 1);
        hall.begin(5, 0);
        Calls.due('n', hall, "step", 0);
        hall.issue(2, 121, 9);
        Calls.chains(hall, 6, 0, 1, 6, 3, 1);
    }

    /** "or 0 for none", "the number of names that it has then, 0 to 2". */
    private static void numberOfNames() {
        Certhold hall = hall();
        Calls.due(0, hall, "setNames", 2, 0, 0);
        Calls.due(1, hall, "setNames", 2, 1, 0);
        Calls.due(1, hall, "setNames", 2, 0, 9999);
        Calls.due(2, hall, "setNames", 2, 9999, 1);
        Calls.due(0, hall, "setNames", 2, 0, 0);
        // The names that stood before are gone.
        hall.issue(2, 3, 9);
        hall.trust(0, true);
        Calls.chains(hall, 3, 0, 1, 3, 2, 0);
    }

    /** "its key has issued a certificate other than roots": a root alone is not meant. */
    private static void keyThatHasIssued() {
        Certhold hall = new Certhold();
        hall.makeRoot(1, 9, 5);
        hall.makeRoot(2, 9, 5);
        Calls.due(1, hall, "setNames", 0, 1, 0);
        // Refused calls have issued nothing.
        Calls.due(Calls.ARGUMENT, hall, "issue", 0, 0, 9);
        Calls.due(Calls.STATE, hall, "cross", 0, 0, 9, 5);
        Calls.due(1, hall, "setNames", 0, 1, 0);
        hall.issue(0, 1, 9);
        Calls.due(Calls.STATE, hall, "setNames", 0, 0, 0);
        Calls.due(0, hall, "setNames", 1, 0, 0);
        hall.issueAuthority(1, 1, 9, 5);
        Calls.due(Calls.STATE, hall, "setNames", 1, 0, 0);
        // To be crossed is not to issue; to cross is.
        Calls.due(4, hall, "cross", 0, 3, 9, 5);
        Calls.due(1, hall, "setNames", 3, 1, 0);
        Calls.due(1, hall, "setNames", 4, 1, 0);
        Calls.due(5, hall, "cross", 3, 0, 9, 5);
        Calls.due(Calls.STATE, hall, "setNames", 3, 1, 0);
        Calls.due(Calls.STATE, hall, "setNames", 4, 1, 0);
        Calls.due(Calls.STATE, hall, "setNames", 5, 1, 0);
    }

    /** What a certificate issues, it issues with the names that it has then. */
    private static void namesUntilItIssues() {
        Certhold hall = hall();
        hall.trust(0, true);
        hall.setNames(2, 12, 0);
        hall.issue(2, 12, 9);
        hall.issue(2, 1, 9);
        Calls.due(Calls.STATE, hall, "setNames", 2, 0, 0);
        Calls.chains(hall, 3, 0, 1, 3, 2, 0);
        Calls.chains(hall, 4, 0, 0);
        // A revocation or the end of its days does not free the key.
        hall.revoke(3);
        hall.revoke(4);
        hall.publish(2);
        hall.pass(99);
        Calls.due(Calls.STATE, hall, "setNames", 2, 0, 0);
    }

    /** "A method that throws an exception changes nothing": the names that stood still stand. */
    private static void refusedNames() {
        Certhold hall = hall();
        hall.trust(0, true);
        hall.setNames(2, 12, 129);
        Calls.due(Calls.ARGUMENT, hall, "setNames", 2, 3, -1);
        Calls.due(Calls.ARGUMENT, hall, "setNames", 2, 30, 0);
        Calls.due(Calls.ARGUMENT, hall, "setNames", 2, 0, 90);
        hall.issue(2, 12, 9);
        hall.issue(2, 129, 9);
        hall.issue(2, 3, 9);
        Calls.due(Calls.STATE, hall, "setNames", 2, 3, 0);
        Calls.chains(hall, 3, 0, 1, 3, 2, 0);
        Calls.chains(hall, 4, 0, 0);
        Calls.chains(hall, 5, 0, 0);
    }

    /** "the number of roots that are trusted": what is so already counts once. */
    private static void trustedRoots() {
        Certhold hall = hall();
        Calls.due(0, hall, "trust", 1, false);
        Calls.due(1, hall, "trust", 1, true);
        Calls.due(1, hall, "trust", 1, true);
        Calls.due(2, hall, "trust", 0, true);
        Calls.due(1, hall, "trust", 1, false);
        Calls.due(1, hall, "trust", 1, false);
        Calls.due(0, hall, "trust", 0, false);
        // A root that is not valid any more can be trusted.
        hall.pass(999);
        Calls.due(1, hall, "trust", 0, true);
    }

    private static void fortyTrustedRoots() {
        Certhold hall = new Certhold();
        for (int number = 0; number < 40; number++) {
            hall.makeRoot(1, 1, 0);
            Calls.due(number + 1, hall, "trust", number, true);
        }
        for (int number = 0; number < 40; number++) {
            Calls.due(39 - number, hall, "trust", number, false);
        }
    }

    /** "at most 512 calls": the last of them is answered like the first. */
    private static void manyCalls() {
        Certhold hall = new Certhold();
        for (int call = 1; call <= 510; call++) {
            Calls.due(999 * call, hall, "pass", 999);
        }
        Calls.due(0, hall, "makeRoot", 1, 999, 0);
        Calls.due(999 * 510 + 998, hall, "lastDayOf", 0);
        Certhold other = new Certhold();
        other.makeRoot(1, 9, 0);
        other.makeRoot(1, 9, 0);
        for (int call = 3; call < 512; call++) {
            Calls.due(0, other, "publish", 0);
        }
        Calls.due(1, other, "trust", 0, true);
    }
}
