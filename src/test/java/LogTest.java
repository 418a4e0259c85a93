import java.util.ArrayList;
import java.util.List;

/** Promises 32 to 38: roots and proofs, by numbers worked out by hand and by the words. */
public final class LogTest {
    private static final long MODULUS = 1000000007L;

    public static void main(String[] arguments) {
        smallLog();
        wrongSizes();
        fullLog();
        Calls.end();
    }

    private static void smallLog() {
        Certhold hall = new Certhold();
        hall.makeRoot(1, 9, 5);
        hall.issueAuthority(0, 12, 9, 5);
        hall.makeRoot(9999, 9, 5);
        hall.cross(2, 1, 9, 5);
        hall.issue(3, 345, 9);
        long[] roots = {73866L, 581459418L, 33646437L, 793834850L, 122075997L};
        for (int size = 1; size <= roots.length; size++) {
            Calls.due(roots[size - 1], hall, "rootOf", size);
            Calls.due(roots[size - 1], hall, "rootByJoining", size);
        }
        Calls.due(0, hall, "proofSize", 0, 1);
        Calls.due(3, hall, "proofSize", 1, 5);
        Calls.due(73866L, hall, "proofAt", 1, 5, 0);
        Calls.due(550032838L, hall, "proofAt", 1, 5, 1);
        Calls.due(2958012L, hall, "proofAt", 1, 5, 2);
        Calls.due(1, hall, "proofSize", 4, 5);
        Calls.due(793834850L, hall, "proofAt", 4, 5, 0);
        Calls.due(122075997L, hall, "rootByProof", 1, 5);
        Calls.due(1, hall, "growthSize", 4, 5);
        Calls.due(2958012L, hall, "growthAt", 4, 5, 0);
        Calls.due(4, hall, "growthSize", 3, 5);
        Calls.due(82099074L, hall, "growthAt", 3, 5, 0);
        Calls.due(295561L, hall, "growthAt", 3, 5, 1);
        Calls.due(581459418L, hall, "growthAt", 3, 5, 2);
        Calls.due(2958012L, hall, "growthAt", 3, 5, 3);
        Calls.due(0, hall, "growthSize", 5, 5);
        // Neither days nor trust nor revocations are in the log.
        hall.pass(20);
        hall.revoke(4);
        hall.publish(1);
        hall.trust(0, true);
        Calls.due(122075997L, hall, "rootOf", 5);
    }

    private static void wrongSizes() {
        Certhold hall = new Certhold();
        for (int entries = 0; entries < 3; entries++) {
            int[] wrong = {0, -1, entries + 1, 41, Integer.MIN_VALUE, Integer.MAX_VALUE};
            for (int size : wrong) {
                Calls.due(Calls.ARGUMENT, hall, "rootOf", size);
                Calls.due(Calls.ARGUMENT, hall, "rootByJoining", size);
                Calls.due(Calls.ARGUMENT, hall, "proofSize", -1, size);
                Calls.due(Calls.ARGUMENT, hall, "proofAt", 0, size, 0);
                Calls.due(Calls.ARGUMENT, hall, "rootByProof", -1, size);
                Calls.due(Calls.ARGUMENT, hall, "growthSize", 0, size);
                Calls.due(Calls.ARGUMENT, hall, "growthAt", 1, size, 0);
            }
            hall.makeRoot(1, 1, 0);
        }
        int[] entries = {-1, 2, 3, Integer.MIN_VALUE, Integer.MAX_VALUE};
        for (int entry : entries) {
            Calls.due(Calls.INDEX, hall, "proofSize", entry, 2);
            Calls.due(Calls.INDEX, hall, "proofAt", entry, 2, 0);
            Calls.due(Calls.INDEX, hall, "rootByProof", entry, 2);
        }
        int[] smallers = {-1, 0, 3, 4, Integer.MIN_VALUE, Integer.MAX_VALUE};
        for (int smaller : smallers) {
            Calls.due(Calls.INDEX, hall, "growthSize", smaller, 2);
            Calls.due(Calls.INDEX, hall, "growthAt", smaller, 2, 0);
        }
        int[] indices = {-1, 1, 2, 8, Integer.MIN_VALUE, Integer.MAX_VALUE};
        for (int index : indices) {
            Calls.due(Calls.INDEX, hall, "proofAt", 0, 2, index);
            Calls.due(Calls.INDEX, hall, "growthAt", 1, 2, index);
        }
        Calls.due(Calls.INDEX, hall, "proofAt", 0, 1, 0);
        Calls.due(Calls.INDEX, hall, "growthAt", 3, 3, 0);
    }

    private static void fullLog() {
        List<Long> entries = new ArrayList<>();
        Certhold hall = new Certhold();
        for (int number = 0; number < 40; number++) {
            int name = 1111 + number % 7 * 111 + number / 20;
            if (number % 9 == 0) {
                hall.makeRoot(name, 9, 5);
            } else {
                hall.issueAuthority(number - 1, name, 9, 5);
            }
            entries.add((131L * number + 8191L * name + 127L * hall.keyOf(number)
                    + 65537L * hall.issuerKeyOf(number) + 11L) % MODULUS);
        }
        for (int size = 1; size <= 40; size++) {
            List<Long> log = entries.subList(0, size);
            Calls.due(root(log), hall, "rootOf", size);
            Calls.due(root(log), hall, "rootByJoining", size);
            for (int entry = 0; entry < size; entry++) {
                List<Long> proof = proof(log, entry);
                row(hall, "proof", proof, entry, size);
                Calls.due(root(log), hall, "rootByProof", entry, size);
            }
            for (int smaller = 1; smaller <= size; smaller++) {
                row(hall, "growth", growth(log, smaller, true), smaller, size);
            }
        }
    }

    private static void row(Certhold hall, String kind, List<Long> wants, int part, int size) {
        Calls.due(wants.size(), hall, kind + "Size", part, size);
        for (int index = 0; index < wants.size(); index++) {
            Calls.due(wants.get(index), hall, kind + "At", part, size, index);
        }
        Calls.due(Calls.INDEX, hall, kind + "At", part, size, wants.size());
        Calls.due(Calls.INDEX, hall, kind + "At", part, size, -1);
    }

    private static int split(List<Long> part) {
        return Integer.highestOneBit(part.size() - 1);
    }

    private static long root(List<Long> part) {
        if (part.size() == 1) {
            return part.get(0);
        }
        int split = split(part);
        long first = root(part.subList(0, split));
        long second = root(part.subList(split, part.size()));
        return (1009L * first + 9176L * second + 31L) % MODULUS;
    }

    private static List<Long> proof(List<Long> part, int entry) {
        if (part.size() == 1) {
            return new ArrayList<>();
        }
        int split = split(part);
        List<Long> first = part.subList(0, split);
        List<Long> second = part.subList(split, part.size());
        List<Long> row = entry < split ? proof(first, entry) : proof(second, entry - split);
        row.add(root(entry < split ? second : first));
        return row;
    }

    private static List<Long> growth(List<Long> part, int smaller, boolean isFromFirst) {
        List<Long> row = new ArrayList<>();
        if (smaller == part.size()) {
            if (!isFromFirst) {
                row.add(root(part));
            }
            return row;
        }
        int split = split(part);
        List<Long> first = part.subList(0, split);
        List<Long> second = part.subList(split, part.size());
        if (smaller <= split) {
            row = growth(first, smaller, isFromFirst);
            row.add(root(second));
        } else {
            row = growth(second, smaller - split, false);
            row.add(root(first));
        }
        return row;
    }
}
