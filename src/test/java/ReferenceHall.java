import java.util.ArrayList;
import java.util.Comparator;
import java.util.List;
import java.util.NoSuchElementException;

/**
 * The document's words once more, in the slowest and plainest way: chains are all written out,
 * judged one by one and sorted. RandomRunsTest holds Certhold against it.
 */
final class ReferenceHall {
    private static final class Cert {
        int name;
        int key;
        int issuerName;
        int issuerKey;
        boolean isRoot;
        boolean isAuthority;
        int first;
        int last;
        int length;
        String permitted = "";
        String excluded = "";
        boolean isTrusted;
        boolean isMarked;
        Integer effect;
    }

    private record Published(int day, List<Integer> numbers) {
    }

    private final List<Cert> certs = new ArrayList<>();
    private final List<Published> lists = new ArrayList<>();
    private List<Integer> walk = new ArrayList<>();
    private int walkDay;
    private int today;
    private int keys;

    private Cert get(int number) {
        if (number < 0 || number >= certs.size()) {
            throw new NoSuchElementException();
        }
        return certs.get(number);
    }

    private static void argument(boolean isRight) {
        if (!isRight) {
            throw new IllegalArgumentException();
        }
    }

    private static void state(boolean isRight) {
        if (!isRight) {
            throw new IllegalStateException();
        }
    }

    private static void index(boolean isRight) {
        if (!isRight) {
            throw new IndexOutOfBoundsException();
        }
    }

    private static boolean name(int name) {
        return Integer.toString(name).matches("[1-9]{1,4}");
    }

    private static boolean days(int days) {
        return days >= 1 && days <= 999;
    }

    private static boolean length(int length) {
        return length >= 0 && length <= 5;
    }

    private int add(int name, int key, Cert issuer, int days, int length) {
        Cert cert = new Cert();
        cert.name = name;
        cert.key = key;
        cert.isRoot = issuer == null;
        cert.issuerName = issuer == null ? name : issuer.name;
        cert.issuerKey = issuer == null ? key : issuer.key;
        cert.isAuthority = length >= 0;
        cert.length = length;
        cert.first = today;
        cert.last = today + days - 1;
        certs.add(cert);
        return certs.size() - 1;
    }

    int makeRoot(int name, int days, int length) {
        argument(name(name) && days(days) && length(length));
        state(certs.size() < 40);
        return add(name, ++keys, null, days, length);
    }

    int issue(int issuer, int name, int days) {
        Cert by = get(issuer);
        argument(name(name) && days(days));
        state(by.isAuthority && certs.size() < 40);
        return add(name, ++keys, by, days, -1);
    }

    int issueAuthority(int issuer, int name, int days, int length) {
        Cert by = get(issuer);
        argument(name(name) && days(days) && length(length));
        state(by.isAuthority && certs.size() < 40);
        return add(name, ++keys, by, days, length);
    }

    int cross(int issuer, int subject, int days, int length) {
        Cert by = get(issuer);
        Cert of = get(subject);
        argument(days(days) && length(length));
        state(by.isAuthority && of.isAuthority && by.key != of.key);
        state(certs.stream().filter(each -> each.key == of.key).count() != 3);
        state(certs.size() < 40);
        return add(of.name, of.key, by, days, length);
    }

    int setNames(int certificate, int permitted, int excluded) {
        Cert cert = get(certificate);
        argument((permitted == 0 || name(permitted)) && (excluded == 0 || name(excluded)));
        state(cert.isAuthority);
        state(certs.stream().noneMatch(each -> !each.isRoot && each.issuerKey == cert.key));
        cert.permitted = permitted == 0 ? "" : "" + permitted;
        cert.excluded = excluded == 0 ? "" : "" + excluded;
        return (cert.permitted.isEmpty() ? 0 : 1) + (cert.excluded.isEmpty() ? 0 : 1);
    }

    int trust(int root, boolean isTrusted) {
        Cert cert = get(root);
        state(cert.isRoot);
        cert.isTrusted = isTrusted;
        return (int) certs.stream().filter(each -> each.isTrusted).count();
    }

    int revoke(int certificate) {
        Cert cert = get(certificate);
        state(!cert.isRoot && !cert.isMarked);
        cert.isMarked = true;
        return (int) certs.stream().filter(each -> each.issuerName == cert.issuerName
                && each.issuerKey == cert.issuerKey && each.isMarked && each.effect == null)
                .count();
    }

    int publish(int issuer) {
        Cert by = get(issuer);
        state(by.isAuthority);
        List<Integer> numbers = new ArrayList<>();
        int effects = 0;
        for (int number = 0; number < certs.size(); number++) {
            Cert each = certs.get(number);
            if (each.isMarked && each.issuerName == by.name && each.issuerKey == by.key) {
                numbers.add(number);
                if (each.effect == null) {
                    each.effect = today;
                    effects++;
                }
            }
        }
        lists.add(new Published(today, numbers));
        return effects;
    }

    int pass(int days) {
        argument(days(days));
        today += days;
        return today;
    }

    int day() {
        return today;
    }

    int certificates() {
        return certs.size();
    }

    int nameOf(int certificate) {
        return get(certificate).name;
    }

    int keyOf(int certificate) {
        return get(certificate).key;
    }

    int issuerKeyOf(int certificate) {
        return get(certificate).issuerKey;
    }

    int lastDayOf(int certificate) {
        return get(certificate).last;
    }

    char kindOf(int certificate) {
        Cert cert = get(certificate);
        return cert.isRoot ? 'r' : cert.isAuthority ? 'a' : 'e';
    }

    boolean isBelow(int name, int other) {
        argument(name(name) && name(other));
        return ("" + name).startsWith("" + other);
    }

    boolean isRevoked(int certificate, int day) {
        Cert cert = get(certificate);
        argument(day >= 0);
        return cert.effect != null && cert.effect <= day;
    }

    boolean isRevokedByLists(int certificate, int day) {
        get(certificate);
        argument(day >= 0);
        return lists.stream().anyMatch(each -> each.day <= day
                && each.numbers.contains(certificate));
    }

    private List<Integer> candidateRow(int certificate) {
        Cert cert = get(certificate);
        List<Integer> row = new ArrayList<>();
        for (int number = 0; number < certs.size(); number++) {
            Cert each = certs.get(number);
            if (number != certificate && each.name == cert.issuerName
                    && each.key == cert.issuerKey) {
                row.add(number);
            }
        }
        return row;
    }

    int candidates(int certificate) {
        return candidateRow(certificate).size();
    }

    int candidateAt(int certificate, int rank) {
        List<Integer> row = candidateRow(certificate);
        index(rank >= 0 && rank < row.size());
        return row.get(rank);
    }

    private void allChains(List<Integer> begun, List<List<Integer>> all) {
        all.add(new ArrayList<>(begun));
        if (begun.size() == 8) {
            return;
        }
        for (int next : candidateRow(begun.get(begun.size() - 1))) {
            if (!begun.contains(next)) {
                begun.add(next);
                allChains(begun, all);
                begun.remove(begun.size() - 1);
            }
        }
    }

    private boolean isGood(List<Integer> chain, int day) {
        Cert root = certs.get(chain.get(chain.size() - 1));
        if (!root.isRoot || !root.isTrusted) {
            return false;
        }
        for (int place = 0; place < chain.size(); place++) {
            Cert cert = certs.get(chain.get(place));
            boolean isValid = cert.first <= day && day <= cert.last;
            boolean isRevoked = cert.effect != null && cert.effect <= day;
            boolean isFit = place == 0 || cert.isAuthority && cert.length >= place - 1;
            if (!isValid || isRevoked || !isFit || !allows(cert, chain.subList(0, place))) {
                return false;
            }
        }
        return true;
    }

    private boolean allows(Cert cert, List<Integer> before) {
        for (int number : before) {
            String name = "" + certs.get(number).name;
            if (!name.startsWith(cert.permitted)
                    || !cert.excluded.isEmpty() && name.startsWith(cert.excluded)) {
                return false;
            }
        }
        return true;
    }

    /** The good chains, the best one first. */
    private List<List<Integer>> good(int certificate, int day) {
        List<List<Integer>> all = new ArrayList<>();
        allChains(new ArrayList<>(List.of(certificate)), all);
        all.removeIf(each -> !isGood(each, day));
        all.sort(Comparator.comparingInt((List<Integer> each) -> each.size())
                .thenComparing((one, other) -> {
                    for (int place = 0; place < one.size(); place++) {
                        if (!one.get(place).equals(other.get(place))) {
                            return one.get(place) - other.get(place);
                        }
                    }
                    return 0;
                }));
        return all;
    }

    private List<Integer> best(int certificate, int day) {
        List<List<Integer>> good = good(certificate, day);
        return good.isEmpty() ? List.of() : good.get(0);
    }

    int chainSize(int certificate, int day) {
        get(certificate);
        argument(day >= 0);
        return best(certificate, day).size();
    }

    int chainAt(int certificate, int day, int index) {
        get(certificate);
        argument(day >= 0);
        List<Integer> best = best(certificate, day);
        index(index >= 0 && index < best.size());
        return best.get(index);
    }

    int goodChains(int certificate, int day) {
        get(certificate);
        argument(day >= 0);
        return good(certificate, day).size();
    }

    int goodChainsByWalks(int certificate, int day) {
        return goodChains(certificate, day);
    }

    private char ownReason(Cert cert, int day) {
        if (day < cert.first || day > cert.last) {
            return 't';
        }
        return cert.effect != null && cert.effect <= day ? 'r' : 'o';
    }

    char begin(int certificate, int day) {
        Cert cert = get(certificate);
        argument(day >= 0);
        char reason = ownReason(cert, day);
        if (reason == 'o') {
            walk = new ArrayList<>(List.of(certificate));
            walkDay = day;
        }
        return reason;
    }

    char step(int rank) {
        state(!walk.isEmpty());
        List<Integer> row = candidateRow(walk.get(walk.size() - 1));
        index(rank >= 0 && rank < row.size());
        int next = row.get(rank);
        Cert cert = certs.get(next);
        char reason = ownReason(cert, walkDay);
        if (walk.contains(next)) {
            return 'x';
        } else if (reason != 'o') {
            return reason;
        } else if (!cert.isAuthority) {
            return 'a';
        } else if (cert.length < walk.size() - 1) {
            return 'l';
        } else if (!allows(cert, walk)) {
            return 'n';
        }
        walk.add(next);
        return 'o';
    }

    int reached() {
        state(!walk.isEmpty());
        return walk.get(walk.size() - 1);
    }

    int walked() {
        return walk.size();
    }

    boolean isThrough() {
        return !walk.isEmpty() && certs.get(reached()).isRoot && certs.get(reached()).isTrusted;
    }

    private void size(int size) {
        argument(size >= 1 && size <= certs.size());
    }

    private static int split(int size) {
        int split = 1;
        while (split * 2 < size) {
            split *= 2;
        }
        return split;
    }

    private long root(int from, int to) {
        if (to - from == 1) {
            Cert cert = certs.get(from);
            return (131L * from + 8191L * cert.name + 127L * cert.key + 65537L * cert.issuerKey
                    + 11) % 1000000007;
        }
        int middle = from + split(to - from);
        return (1009 * root(from, middle) + 9176 * root(middle, to) + 31) % 1000000007;
    }

    private List<Long> proof(int from, int to, int entry) {
        if (to - from == 1) {
            return new ArrayList<>();
        }
        int middle = from + split(to - from);
        List<Long> row = entry < middle ? proof(from, middle, entry) : proof(middle, to, entry);
        row.add(entry < middle ? root(middle, to) : root(from, middle));
        return row;
    }

    private List<Long> growth(int from, int to, int smaller) {
        if (smaller == to) {
            return from == 0 ? new ArrayList<>() : new ArrayList<>(List.of(root(from, to)));
        }
        int middle = from + split(to - from);
        List<Long> row = smaller <= middle ? growth(from, middle, smaller)
                : growth(middle, to, smaller);
        row.add(smaller <= middle ? root(middle, to) : root(from, middle));
        return row;
    }

    long rootOf(int size) {
        size(size);
        return root(0, size);
    }

    long rootByJoining(int size) {
        return rootOf(size);
    }

    int proofSize(int entry, int size) {
        size(size);
        index(entry >= 0 && entry < size);
        return proof(0, size, entry).size();
    }

    long proofAt(int entry, int size, int index) {
        index(proofSize(entry, size) > index && index >= 0);
        return proof(0, size, entry).get(index);
    }

    long rootByProof(int entry, int size) {
        proofSize(entry, size);
        return root(0, size);
    }

    int growthSize(int smaller, int size) {
        size(size);
        index(smaller >= 1 && smaller <= size);
        return growth(0, size, smaller).size();
    }

    long growthAt(int smaller, int size, int index) {
        index(growthSize(smaller, size) > index && index >= 0);
        return growth(0, size, smaller).get(index);
    }

    float soundShare() {
        if (certs.isEmpty()) {
            throw new ArithmeticException();
        }
        long sound = certs.stream().filter(each -> ownReason(each, today) == 'o').count();
        return (float) sound / (float) certs.size();
    }

    double meanChain() {
        int sum = 0;
        int number = 0;
        for (int certificate = 0; certificate < certs.size(); certificate++) {
            int size = best(certificate, today).size();
            sum += size;
            number += size > 0 ? 1 : 0;
        }
        if (number == 0) {
            throw new ArithmeticException();
        }
        return (double) sum / (double) number;
    }
}
