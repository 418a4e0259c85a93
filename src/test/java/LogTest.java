import java.util.ArrayList;
import java.util.List;

/** Promises 32 to 38: roots and proofs, by numbers worked out by hand and by the words. */
public final class LogTest {
    private static final long MODULUS = 1000000007L;

    public static void main(String[] arguments) {
        smallLog();
        oneEntry();
        twoEntries();
        powersOfTwo();
        greatestEntry();
        endOfThePart();
        wrongSizes();
        allSizes();
        Calls.end();
    }

    private static void smallLog() {
        Certhold hall = new Certhold();
        hall.makeRoot(1, 9, 5);
        hall.issueAuthority(0, 12, 9, 5);
        hall.makeRoot(9999, 9, 5);
        hall.cross(2, 1, 9, 5);
        hall.issue(3, 345, 9);
        long[] roots = {73866L, 581459418L, 33646437L, 793834850L, 122075997L};
        for (int size = 1; size <= roots.length; size++) {
            Calls.due(roots[size - 1], hall, "rootOf", size);
            Calls.due(roots[size - 1], hall, "rootByJoining", size);
        }
        Calls.due(0, hall, "proofSize", 0, 1);
        Calls.due(3, hall, "proofSize", 1, 5);
        Calls.due(73866L, hall, "proofAt", 1, 5, 0);
        Calls.due(550032838L, hall, "proofAt", 1, 5, 1);
        Calls.due(2958012L, hall, "proofAt", 1, 5, 2);
        Calls.due(1, hall, "proofSize", 4, 5);
        Calls.due(793834850L, hall, "proofAt", 4, 5, 0);
        Calls.due(122075997L, hall, "rootByProof", 1, 5);
        Calls.due(1, hall, "growthSize", 4, 5);
        Calls.due(2958012L, hall, "growthAt", 4, 5, 0);
        Calls.due(4, hall, "growthSize", 3, 5);
        Calls.due(82099074L, hall, "growthAt", 3, 5, 0);
        Calls.due(295561L, hall, "growthAt", 3, 5, 1);
        Calls.due(581459418L, hall, "growthAt", 3, 5, 2);
        Calls.due(2958012L, hall, "growthAt", 3, 5, 3);
        Calls.due(0, hall, "growthSize", 5, 5);
        // Neither days nor trust nor revocations are in the log.
        hall.pass(20);
        hall.revoke(4);
        hall.publish(1);
        hall.trust(0, true);
        Calls.due(122075997L, hall, "rootOf", 5);
    }

    private static long joined(long first, long second) {
        return (1009L * first + 9176L * second + 31L) % MODULUS;
    }

    /** "the hash of the entry if there is one", "none if the size is 1", "or has nothing". */
    private static void oneEntry() {
        Certhold hall = roots(1);
        long entry = 8191L + 127L + 65537L + 11L;
        Calls.due(entry, hall, "rootOf", 1);
        Calls.due(entry, hall, "rootByJoining", 1);
        Calls.due(entry, hall, "rootByProof", 0, 1);
        Calls.due(0, hall, "proofSize", 0, 1);
        Calls.due(Calls.INDEX, hall, "proofAt", 0, 1, 0);
        Calls.due(0, hall, "growthSize", 1, 1);
        Calls.due(Calls.INDEX, hall, "growthAt", 1, 1, 0);
        // A log that has grown keeps the roots of its smaller sizes.
        hall.makeRoot(1, 1, 0);
        Calls.due(entry, hall, "rootOf", 1);
        Calls.due(entry, hall, "rootByProof", 0, 1);
    }

    private static void twoEntries() {
        Certhold hall = roots(2);
        long first = 8191L + 127L + 65537L + 11L;
        long second = 131L + 8191L + 2 * 127L + 2 * 65537L + 11L;
        Calls.due(joined(first, second), hall, "rootOf", 2);
        Calls.due(joined(first, second), hall, "rootByJoining", 2);
        Calls.due(second, hall, "proofAt", 0, 2, 0);
        Calls.due(first, hall, "proofAt", 1, 2, 0);
        Calls.due(second, hall, "growthAt", 1, 2, 0);
        for (int part = 0; part < 2; part++) {
            Calls.due(1, hall, "proofSize", part, 2);
            Calls.due(joined(first, second), hall, "rootByProof", part, 2);
        }
        Calls.due(1, hall, "growthSize", 1, 2);
        Calls.due(0, hall, "growthSize", 2, 2);
    }

    /** "the greatest power of 2 that is less than their number": half of a power of 2 itself. */
    private static void powersOfTwo() {
        Certhold hall = fullHall();
        for (int half = 1; half <= 16; half *= 2) {
            // The other part of the proof of the last entry is the first half's root.
            int height = Integer.numberOfTrailingZeros(half);
            Calls.due(height + 1, hall, "proofSize", 2 * half - 1, 2 * half);
            Calls.due(hall.rootOf(half), hall, "proofAt", 2 * half - 1, 2 * half, height);
            // One entry more stands alone behind it.
            Calls.due(1, hall, "proofSize", 2 * half, 2 * half + 1);
            Calls.due(hall.rootOf(2 * half), hall, "proofAt", 2 * half, 2 * half + 1, 0);
            Calls.due(1, hall, "growthSize", half, 2 * half);
            Calls.due(1, hall, "growthSize", 2 * half, 2 * half + 1);
        }
    }

    /** The greatest name in the last of 40 entries, with the greatest keys. */
    private static void greatestEntry() {
        Certhold hall = roots(39);
        hall.makeRoot(9999, 1, 0);
        long entry = 131L * 39 + 8191L * 9999 + 127L * 40 + 65537L * 40 + 11L;
        // The log of 40 ends with 8 entries, and the last of them is a neighbour's proof.
        Calls.due(entry, hall, "proofAt", 38, 40, 0);
        Calls.due(4, hall, "proofSize", 38, 40);
        Calls.due(6, hall, "proofSize", 0, 40);
        Calls.due(hall.rootOf(40), hall, "rootByProof", 39, 40);
    }

    /** "If the smaller size is the end of the part", "if the smaller size is not beyond ...". */
    private static void endOfThePart() {
        Certhold hall = roots(7);
        long[] entries = new long[7];
        for (int i = 0; i < 7; i++) {
            entries[i] = 131L * i + 8191L + 127L * (i + 1) + 65537L * (i + 1) + 11L;
        }
        long four = hall.rootOf(4);
        long lastThree = joined(joined(entries[4], entries[5]), entries[6]);
        // It is the end of the first part, which begins with the first entry: nothing of its own.
        growthIs(hall, 4, lastThree);
        // The end of a part that does not: its root alone, then what stands beside the way.
        growthIs(hall, 5, entries[4], entries[5], entries[6], four);
        growthIs(hall, 6, joined(entries[4], entries[5]), entries[6], four);
        growthIs(hall, 3, entries[2], entries[3], joined(entries[0], entries[1]), lastThree);
        growthIs(hall, 2, joined(entries[2], entries[3]), lastThree);
        growthIs(hall, 1, entries[1], joined(entries[2], entries[3]), lastThree);
        growthIs(hall, 7);
    }

    private static void growthIs(Certhold hall, int smaller, Long... wants) {
        row(hall, "growth", List.of(wants), smaller, 7);
    }

    private static void wrongSizes() {
        for (int entries = 0; entries < 3; entries++) {
            Certhold hall = roots(entries);
            int[] wrong = {0, -1, entries + 1, 41, Integer.MIN_VALUE, Integer.MAX_VALUE};
            for (int size : wrong) {
                Calls.due(Calls.ARGUMENT, hall, "rootOf", size);
                Calls.due(Calls.ARGUMENT, hall, "rootByJoining", size);
                Calls.due(Calls.ARGUMENT, hall, "proofSize", -1, size);
                Calls.due(Calls.ARGUMENT, hall, "proofAt", 0, size, 0);
                Calls.due(Calls.ARGUMENT, hall, "rootByProof", -1, size);
                Calls.due(Calls.ARGUMENT, hall, "growthSize", 0, size);
                Calls.due(Calls.ARGUMENT, hall, "growthAt", 1, size, 0);
            }
        }
        Certhold hall = roots(3);
        int[] entries = {-1, 2, 3, Integer.MIN_VALUE, Integer.MAX_VALUE};
        for (int entry : entries) {
            Calls.due(Calls.INDEX, hall, "proofSize", entry, 2);
            Calls.due(Calls.INDEX, hall, "proofAt", entry, 2, 0);
            Calls.due(Calls.INDEX, hall, "rootByProof", entry, 2);
        }
        int[] smallers = {-1, 0, 3, 4, Integer.MIN_VALUE, Integer.MAX_VALUE};
        for (int smaller : smallers) {
            Calls.due(Calls.INDEX, hall, "growthSize", smaller, 2);
            Calls.due(Calls.INDEX, hall, "growthAt", smaller, 2, 0);
        }
        int[] indices = {-1, 1, 2, 8, Integer.MIN_VALUE, Integer.MAX_VALUE};
        for (int index : indices) {
            Calls.due(Calls.INDEX, hall, "proofAt", 0, 2, index);
            Calls.due(Calls.INDEX, hall, "growthAt", 1, 2, index);
        }
        Calls.due(Calls.INDEX, hall, "proofAt", 0, 1, 0);
        Calls.due(Calls.INDEX, hall, "growthAt", 3, 3, 0);
    }

    private static Certhold roots(int number) {
        Certhold hall = new Certhold();
        for (int made = 0; made < number; made++) {
            hall.makeRoot(1, 1, 0);
        }
        return hall;
    }

    /** Every size that a log can have, every entry in it and every smaller size. */
    private static void allSizes() {
        List<Long> entries = new ArrayList<>();
        Certhold made = fullHall();
        for (int number = 0; number < 40; number++) {
            entries.add((131L * number + 8191L * made.nameOf(number) + 127L * made.keyOf(number)
                    + 65537L * made.issuerKeyOf(number) + 11L) % MODULUS);
        }
        for (int size = 1; size <= 40; size++) {
            List<Long> log = entries.subList(0, size);
            long root = root(log);
            Certhold hall = fullHall();
            Calls.due(root, hall, "rootOf", size);
            Calls.due(root, hall, "rootByJoining", size);
            for (int part = 0; part < size; part++) {
                Certhold each = fullHall();
                row(each, "proof", proof(log, part), part, size);
                Calls.due(root, each, "rootByProof", part, size);
                row(each, "growth", growth(log, part + 1, true), part + 1, size);
            }
        }
    }

    private static Certhold fullHall() {
        Certhold hall = new Certhold();
        for (int number = 0; number < 40; number++) {
            int name = 1111 + number % 7 * 111 + number / 20;
            if (number % 9 == 0) {
                hall.makeRoot(name, 9, 5);
            } else {
                hall.issueAuthority(number - 1, name, 9, 5);
            }
        }
        return hall;
    }

    private static void row(Certhold hall, String kind, List<Long> wants, int part, int size) {
        Calls.due(wants.size(), hall, kind + "Size", part, size);
        for (int index = 0; index < wants.size(); index++) {
            Calls.due(wants.get(index), hall, kind + "At", part, size, index);
        }
        Calls.due(Calls.INDEX, hall, kind + "At", part, size, wants.size());
        Calls.due(Calls.INDEX, hall, kind + "At", part, size, -1);
    }

    private static int split(List<Long> part) {
        return Integer.highestOneBit(part.size() - 1);
    }

    private static long root(List<Long> part) {
        if (part.size() == 1) {
            return part.get(0);
        }
        int split = split(part);
        long first = root(part.subList(0, split));
        long second = root(part.subList(split, part.size()));
        return (1009L * first + 9176L * second + 31L) % MODULUS;
    }

    private static List<Long> proof(List<Long> part, int entry) {
        if (part.size() == 1) {
            return new ArrayList<>();
        }
        int split = split(part);
        List<Long> first = part.subList(0, split);
        List<Long> second = part.subList(split, part.size());
        List<Long> row = entry < split ? proof(first, entry) : proof(second, entry - split);
        row.add(root(entry < split ? second : first));
        return row;
    }

    private static List<Long> growth(List<Long> part, int smaller, boolean isFromFirst) {
        List<Long> row = new ArrayList<>();
        if (smaller == part.size()) {
            if (!isFromFirst) {
                row.add(root(part));
            }
            return row;
        }
        int split = split(part);
        List<Long> first = part.subList(0, split);
        List<Long> second = part.subList(split, part.size());
        if (smaller <= split) {
            row = growth(first, smaller, isFromFirst);
            row.add(root(second));
        } else {
            row = growth(second, smaller - split, false);
            row.add(root(first));
        }
        return row;
    }
}
