import java.util.NoSuchElementException;

/** A hall of certificate authorities, as ../shared/DOC.md promises it. */
public final class Certhold {
    private static final int MOST_CERTIFICATES = 40;
    private static final int MOST_OF_A_KEY = 3;
    private static final int MOST_DAYS = 999;
    private static final int GREATEST_LENGTH = 5;
    // The greatest length lets five certificates stand between the first one and the last one.
    private static final int LONGEST_CHAIN = GREATEST_LENGTH + 2;
    private static final int GREATEST_NAME = 9999;
    private static final int MOST_DIGITS = 4;

    private static final int NO_NAME = 0;
    private static final int NO_LENGTH = -1;
    private static final int NEVER = -1;

    private static final char MADE = 'o';
    private static final char TWICE = 'x';
    private static final char NOT_VALID = 't';
    private static final char REVOKED = 'r';
    private static final char NO_AUTHORITY = 'a';
    private static final char TOO_LONG = 'l';
    private static final char WRONG_NAME = 'n';

    private static final char KIND_ROOT = 'r';
    private static final char KIND_AUTHORITY = 'a';
    private static final char KIND_OTHER = 'e';

    private final Certificate[] made;
    private final Lists lists;
    private final Log log;
    private final Chain walk;
    // These two are rows for the searches, made once and used again by each of them.
    private final Chain trial;
    private final Chain best;
    private int count;
    private int lastKey;
    private int today;

    public Certhold() {
        made = new Certificate[MOST_CERTIFICATES];
        lists = new Lists();
        log = new Log();
        walk = new Chain();
        trial = new Chain();
        best = new Chain();
        count = 0;
        lastKey = 0;
        today = 0;
    }

    // Making certificates

    public int makeRoot(int name, int days, int length)
            throws IllegalArgumentException, IllegalStateException {
        requireName(name);
        requireDays(days);
        requireLength(length);
        requireRoom();
        Holder holder = newHolder(name);
        return enter(holder, holder, days, length);
    }

    public int issue(int issuer, int name, int days)
            throws NoSuchElementException, IllegalArgumentException, IllegalStateException {
        Certificate by = find(issuer);
        requireName(name);
        requireDays(days);
        requireAuthority(by);
        requireRoom();
        return enter(newHolder(name), by.subject, days, NO_LENGTH);
    }

    public int issueAuthority(int issuer, int name, int days, int length)
            throws NoSuchElementException, IllegalArgumentException, IllegalStateException {
        Certificate by = find(issuer);
        requireName(name);
        requireDays(days);
        requireLength(length);
        requireAuthority(by);
        requireRoom();
        return enter(newHolder(name), by.subject, days, length);
    }

    public int cross(int issuer, int subject, int days, int length)
            throws NoSuchElementException, IllegalArgumentException, IllegalStateException {
        Certificate by = find(issuer);
        Certificate crossed = find(subject);
        requireDays(days);
        requireLength(length);
        requireAuthority(by);
        requireAuthority(crossed);
        if (crossed.subject == by.subject) {
            throw new IllegalStateException("the subject has the key of the issuer");
        }
        if (crossed.subject.isFull()) {
            throw new IllegalStateException("three certificates have this key");
        }
        requireRoom();
        return enter(crossed.subject, by.subject, days, length);
    }

    public int setNames(int certificate, int permitted, int excluded)
            throws NoSuchElementException, IllegalArgumentException, IllegalStateException {
        Certificate bound = find(certificate);
        requireNameOrNone(permitted);
        requireNameOrNone(excluded);
        requireAuthority(bound);
        if (hasIssued(bound.subject)) {
            throw new IllegalStateException("its key has issued a certificate");
        }
        bound.permitted = permitted;
        bound.excluded = excluded;
        return (permitted == NO_NAME ? 0 : 1) + (excluded == NO_NAME ? 0 : 1);
    }

    public int trust(int root, boolean isTrusted)
            throws NoSuchElementException, IllegalStateException {
        Certificate found = find(root);
        if (!found.isRoot()) {
            throw new IllegalStateException("it is no root");
        }
        found.isTrusted = isTrusted;
        return trustedRoots();
    }

    // Revocations and days

    public int revoke(int certificate) throws NoSuchElementException, IllegalStateException {
        Certificate found = find(certificate);
        if (found.isRoot()) {
            throw new IllegalStateException("a root is not revoked");
        }
        if (found.isMarked) {
            throw new IllegalStateException("it is marked already");
        }
        found.isMarked = true;
        return pendingOf(found.issuer);
    }

    public int publish(int issuer) throws NoSuchElementException, IllegalStateException {
        Certificate by = find(issuer);
        requireAuthority(by);
        int pending = pendingOf(by.subject);
        // A list with nothing new tells nothing that the issuer's list before it did not tell,
        // so that the lists that are kept are never more than the certificates.
        if (pending > 0) {
            lists.keep(today, takeEffect(by.subject));
        }
        return pending;
    }

    public int pass(int days) throws IllegalArgumentException {
        requireDays(days);
        today += days;
        return today;
    }

    public int day() {
        return today;
    }

    // Looking at certificates

    public int certificates() {
        return count;
    }

    public int nameOf(int certificate) throws NoSuchElementException {
        return find(certificate).subject.name;
    }

    public int keyOf(int certificate) throws NoSuchElementException {
        return find(certificate).subject.key;
    }

    public int issuerKeyOf(int certificate) throws NoSuchElementException {
        return find(certificate).issuer.key;
    }

    public int lastDayOf(int certificate) throws NoSuchElementException {
        return find(certificate).lastDay;
    }

    public char kindOf(int certificate) throws NoSuchElementException {
        Certificate found = find(certificate);
        if (found.isRoot()) {
            return KIND_ROOT;
        }
        return found.isAuthority() ? KIND_AUTHORITY : KIND_OTHER;
    }

    public boolean isBelow(int name, int other) throws IllegalArgumentException {
        requireName(name);
        requireName(other);
        return beginsWith(name, other);
    }

    public boolean isRevoked(int certificate, int day)
            throws NoSuchElementException, IllegalArgumentException {
        Certificate found = find(certificate);
        requireDay(day);
        return found.isOutOfForceOn(day);
    }

    public boolean isRevokedByLists(int certificate, int day)
            throws NoSuchElementException, IllegalArgumentException {
        Certificate found = find(certificate);
        requireDay(day);
        return lists.tellOf(found.number, day);
    }

    // Chains

    public int candidates(int certificate) throws NoSuchElementException {
        return find(certificate).countCandidates();
    }

    public int candidateAt(int certificate, int rank)
            throws NoSuchElementException, IndexOutOfBoundsException {
        return requireCandidate(find(certificate), rank).number;
    }

    public int chainSize(int certificate, int day)
            throws NoSuchElementException, IllegalArgumentException {
        Certificate first = find(certificate);
        requireDay(day);
        return sizeOfBest(first, day);
    }

    public int chainAt(int certificate, int day, int index)
            throws NoSuchElementException, IllegalArgumentException, IndexOutOfBoundsException {
        Certificate first = find(certificate);
        requireDay(day);
        sizeOfBest(first, day);
        Certificate found = best.at(index);
        if (found == null) {
            throw new IndexOutOfBoundsException("the best chain has no such index");
        }
        return found.number;
    }

    public int goodChains(int certificate, int day)
            throws NoSuchElementException, IllegalArgumentException {
        Certificate first = find(certificate);
        requireDay(day);
        trial.restart(first, day);
        return countJudged(trial);
    }

    public int goodChainsByWalks(int certificate, int day)
            throws NoSuchElementException, IllegalArgumentException {
        Certificate first = find(certificate);
        requireDay(day);
        if (first.refusalOn(day) != MADE) {
            return 0;
        }
        trial.restart(first, day);
        return countLengthened(trial);
    }

    // Walks

    public char begin(int certificate, int day)
            throws NoSuchElementException, IllegalArgumentException {
        Certificate first = find(certificate);
        requireDay(day);
        char refusal = first.refusalOn(day);
        if (refusal == MADE) {
            walk.restart(first, day);
        }
        return refusal;
    }

    public char step(int rank) throws IllegalStateException, IndexOutOfBoundsException {
        Certificate next = requireCandidate(requireReached(), rank);
        char refusal = walk.refusalOf(next);
        if (refusal == MADE) {
            walk.add(next);
        }
        return refusal;
    }

    public int reached() throws IllegalStateException {
        return requireReached().number;
    }

    public int walked() {
        return walk.size;
    }

    public boolean isThrough() {
        return walk.endsInTrust();
    }

    // The log

    public long rootOf(int size) throws IllegalArgumentException {
        requireSize(size);
        return log.rootByDividing(0, size);
    }

    public long rootByJoining(int size) throws IllegalArgumentException {
        requireSize(size);
        return log.rootOfJoined(size);
    }

    public int proofSize(int entry, int size)
            throws IllegalArgumentException, IndexOutOfBoundsException {
        return prove(entry, size).size;
    }

    public long proofAt(int entry, int size, int index)
            throws IllegalArgumentException, IndexOutOfBoundsException {
        return hashAt(prove(entry, size), index);
    }

    public long rootByProof(int entry, int size)
            throws IllegalArgumentException, IndexOutOfBoundsException {
        Proof proof = prove(entry, size);
        return proof.rootFrom(log.hashOfEntry(entry));
    }

    public int growthSize(int smaller, int size)
            throws IllegalArgumentException, IndexOutOfBoundsException {
        return proveGrowth(smaller, size).size;
    }

    public long growthAt(int smaller, int size, int index)
            throws IllegalArgumentException, IndexOutOfBoundsException {
        return hashAt(proveGrowth(smaller, size), index);
    }

    // Shares and means

    public float soundShare() throws ArithmeticException {
        if (count == 0) {
            throw new ArithmeticException("there are no certificates");
        }
        int sound = 0;
        for (Certificate each : made) {
            if (each != null && each.isValidOn(today) && each.effectDay == NEVER) {
                sound++;
            }
        }
        return (float) sound / (float) count;
    }

    public double meanChain() throws ArithmeticException {
        int sum = 0;
        int chained = 0;
        for (Certificate each : made) {
            int size = each == null ? 0 : sizeOfBest(each, today);
            if (size > 0) {
                sum += size;
                chained++;
            }
        }
        if (chained == 0) {
            throw new ArithmeticException("no certificate has a good chain");
        }
        return (double) sum / (double) chained;
    }

    // What the calls ask of their arguments and of the hall

    private Certificate find(int number) throws NoSuchElementException {
        Certificate found = number < 0 || number >= made.length ? null : made[number];
        if (found == null) {
            throw new NoSuchElementException("there is no such certificate");
        }
        return found;
    }

    private Certificate requireCandidate(Certificate of, int rank)
            throws IndexOutOfBoundsException {
        Certificate found = of.candidate(rank);
        if (found == null) {
            throw new IndexOutOfBoundsException("there is no such rank");
        }
        return found;
    }

    private Certificate requireReached() throws IllegalStateException {
        Certificate last = walk.last();
        if (last == null) {
            throw new IllegalStateException("no walk was begun");
        }
        return last;
    }

    private static void requireName(int name) throws IllegalArgumentException {
        if (!isName(name)) {
            throw new IllegalArgumentException("this is not a name");
        }
    }

    private static void requireNameOrNone(int name) throws IllegalArgumentException {
        if (name != NO_NAME) {
            requireName(name);
        }
    }

    private static void requireDays(int days) throws IllegalArgumentException {
        if (days < 1 || days > MOST_DAYS) {
            throw new IllegalArgumentException("the days are not between 1 and 999");
        }
    }

    private static void requireLength(int length) throws IllegalArgumentException {
        if (length < 0 || length > GREATEST_LENGTH) {
            throw new IllegalArgumentException("the length is not between 0 and 5");
        }
    }

    private static void requireDay(int day) throws IllegalArgumentException {
        if (day < 0) {
            throw new IllegalArgumentException("the day is less than 0");
        }
    }

    private static void requireAuthority(Certificate certificate) throws IllegalStateException {
        if (!certificate.isAuthority()) {
            throw new IllegalStateException("it is no authority");
        }
    }

    private void requireRoom() throws IllegalStateException {
        if (count >= MOST_CERTIFICATES) {
            throw new IllegalStateException("there are 40 certificates");
        }
    }

    private void requireSize(int size) throws IllegalArgumentException {
        if (size < 1 || size > log.size) {
            throw new IllegalArgumentException("the log has no such size");
        }
    }

    // Names

    private static boolean isName(int name) {
        if (name < 1 || name > GREATEST_NAME) {
            return false;
        }
        for (int rest = name; rest > 0; rest /= 10) {
            if (rest % 10 == 0) {
                return false;
            }
        }
        return true;
    }

    private static boolean beginsWith(int name, int start) {
        int head = name;
        for (int cut = 0; cut < MOST_DIGITS && head > start; cut++) {
            head /= 10;
        }
        return head == start;
    }

    // Making and revoking

    private Holder newHolder(int name) {
        lastKey++;
        return new Holder(name, lastKey);
    }

    private int enter(Holder subject, Holder issuer, int days, int length) {
        int number = count;
        int lastDay = today + days - 1;
        Certificate entered = new Certificate(number, subject, issuer, today, lastDay, length);
        if (number >= 0 && number < made.length) {
            made[number] = entered;
            count++;
            subject.receive(entered);
            log.append(entered);
        }
        return number;
    }

    private boolean hasIssued(Holder issuer) {
        for (Certificate each : made) {
            if (each != null && each.issuer == issuer && !each.isRoot()) {
                return true;
            }
        }
        return false;
    }

    private int trustedRoots() {
        int trusted = 0;
        for (Certificate each : made) {
            if (each != null && each.isTrusted) {
                trusted++;
            }
        }
        return trusted;
    }

    private int pendingOf(Holder issuer) {
        int pending = 0;
        for (Certificate each : made) {
            if (each != null && each.issuer == issuer && each.isMarked
                    && each.effectDay == NEVER) {
                pending++;
            }
        }
        return pending;
    }

    /** Lets all marks of an issuer take effect; returns its list, a bit for each number. */
    private long takeEffect(Holder issuer) {
        long listed = 0;
        for (Certificate each : made) {
            if (each != null && each.issuer == issuer && each.isMarked) {
                listed |= bitOf(each.number);
                if (each.effectDay == NEVER) {
                    each.effectDay = today;
                }
            }
        }
        return listed;
    }

    private static long bitOf(int number) {
        return 1L << number;
    }

    // Searching chains

    /** Leaves the best chain in best, which is empty if no chain is good. */
    private int sizeOfBest(Certificate first, int day) {
        best.clear();
        if (first.refusalOn(day) == MADE) {
            trial.restart(first, day);
            findBest(trial, best);
        }
        return best.size;
    }

    /**
     * The candidates come in ascending order, so of the good chains of one size the first one
     * that is found is the best one. The depth is bounded: add refuses what would be too long.
     */
    private static void findBest(Chain chain, Chain best) {
        Certificate last = chain.last();
        if (last == null || best.size > 0 && chain.size >= best.size) {
            return;
        }
        if (chain.endsInTrust()) {
            best.copy(chain);
            return;
        }
        for (int rank = 0; rank < MOST_OF_A_KEY; rank++) {
            Certificate next = last.candidate(rank);
            if (next != null && chain.refusalOf(next) == MADE && chain.add(next)) {
                findBest(chain, best);
                chain.removeLast();
            }
        }
    }

    private static int countLengthened(Chain chain) {
        Certificate last = chain.last();
        if (last == null) {
            return 0;
        }
        int good = chain.endsInTrust() ? 1 : 0;
        for (int rank = 0; rank < MOST_OF_A_KEY; rank++) {
            Certificate next = last.candidate(rank);
            if (next != null && chain.refusalOf(next) == MADE && chain.add(next)) {
                good += countLengthened(chain);
                chain.removeLast();
            }
        }
        return good;
    }

    private static int countJudged(Chain chain) {
        Certificate last = chain.last();
        if (last == null) {
            return 0;
        }
        int good = chain.isGood() ? 1 : 0;
        for (int rank = 0; rank < MOST_OF_A_KEY; rank++) {
            Certificate next = last.candidate(rank);
            if (next != null && !chain.has(next) && chain.add(next)) {
                good += countJudged(chain);
                chain.removeLast();
            }
        }
        return good;
    }

    // Proofs

    private Proof prove(int entry, int size)
            throws IllegalArgumentException, IndexOutOfBoundsException {
        requireSize(size);
        if (entry < 0 || entry >= size) {
            throw new IndexOutOfBoundsException("the log of this size has no such entry");
        }
        return log.proofOfEntry(entry, size);
    }

    private Proof proveGrowth(int smaller, int size)
            throws IllegalArgumentException, IndexOutOfBoundsException {
        requireSize(size);
        if (smaller < 1 || smaller > size) {
            throw new IndexOutOfBoundsException("the smaller size is not between 1 and the size");
        }
        return log.proofOfGrowth(smaller, size);
    }

    private static long hashAt(Proof proof, int index) throws IndexOutOfBoundsException {
        if (!proof.hasIndex(index)) {
            throw new IndexOutOfBoundsException("the proof has no such index");
        }
        return proof.hash(index);
    }

    /** A name with its key, and the certificates that have both. */
    private static final class Holder {
        final int name;
        final int key;
        final Certificate[] held;
        int heldCount;

        Holder(int name, int key) {
            this.name = name;
            this.key = key;
            held = new Certificate[MOST_OF_A_KEY];
            heldCount = 0;
        }

        boolean isFull() {
            return heldCount >= MOST_OF_A_KEY;
        }

        void receive(Certificate certificate) {
            if (heldCount >= 0 && heldCount < held.length) {
                held[heldCount] = certificate;
                heldCount++;
            }
        }
    }

    private static final class Certificate {
        final int number;
        final Holder subject;
        final Holder issuer;
        final int firstDay;
        final int lastDay;
        final int length;
        int permitted;
        int excluded;
        boolean isTrusted;
        boolean isMarked;
        int effectDay;

        Certificate(int number, Holder subject, Holder issuer, int firstDay, int lastDay,
                int length) {
            this.number = number;
            this.subject = subject;
            this.issuer = issuer;
            this.firstDay = firstDay;
            this.lastDay = lastDay;
            this.length = length;
            permitted = NO_NAME;
            excluded = NO_NAME;
            isTrusted = false;
            isMarked = false;
            effectDay = NEVER;
        }

        // No certificate but a root is issued with the key that it has: cross refuses that.
        boolean isRoot() {
            return subject == issuer;
        }

        boolean isAuthority() {
            return length != NO_LENGTH;
        }

        boolean isValidOn(int day) {
            return firstDay <= day && day <= lastDay;
        }

        boolean isOutOfForceOn(int day) {
            return effectDay != NEVER && effectDay <= day;
        }

        /** Why it can't stand in a chain on a day, whatever the others of the chain are. */
        char refusalOn(int day) {
            if (!isValidOn(day)) {
                return NOT_VALID;
            }
            return isOutOfForceOn(day) ? REVOKED : MADE;
        }

        boolean allows(int name) {
            if (permitted != NO_NAME && !beginsWith(name, permitted)) {
                return false;
            }
            return excluded == NO_NAME || !beginsWith(name, excluded);
        }

        int countCandidates() {
            int found = 0;
            for (Certificate each : issuer.held) {
                if (each != null && each != this) {
                    found++;
                }
            }
            return found;
        }

        /** The candidate of a rank, or null if there is no such rank. */
        Certificate candidate(int rank) {
            int found = 0;
            for (Certificate each : issuer.held) {
                if (each != null && each != this) {
                    if (found == rank) {
                        return each;
                    }
                    found++;
                }
            }
            return null;
        }
    }

    /** Certificates that lead from the first one on towards a root, on a day. */
    private static final class Chain {
        final Certificate[] row;
        int size;
        int day;

        Chain() {
            row = new Certificate[LONGEST_CHAIN];
            size = 0;
            day = 0;
        }

        void clear() {
            size = 0;
        }

        void restart(Certificate first, int onDay) {
            size = 0;
            day = onDay;
            add(first);
        }

        boolean add(Certificate next) {
            if (size < 0 || size >= row.length) {
                return false;
            }
            row[size] = next;
            size++;
            return true;
        }

        void removeLast() {
            if (size > 0) {
                size--;
            }
        }

        void copy(Chain other) {
            size = 0;
            day = other.day;
            for (int place = 0; place < other.size; place++) {
                add(other.at(place));
            }
        }

        /** The certificate at an index, or null if there is no such index. */
        Certificate at(int index) {
            return index < 0 || index >= size || index >= row.length ? null : row[index];
        }

        Certificate last() {
            return at(size - 1);
        }

        boolean has(Certificate certificate) {
            for (int place = 0; place < size; place++) {
                if (at(place) == certificate) {
                    return true;
                }
            }
            return false;
        }

        boolean endsInTrust() {
            Certificate last = last();
            return last != null && last.isRoot() && last.isTrusted;
        }

        char refusalOf(Certificate next) {
            if (has(next)) {
                return TWICE;
            }
            char ownRefusal = next.refusalOn(day);
            if (ownRefusal != MADE) {
                return ownRefusal;
            }
            if (!next.isAuthority()) {
                return NO_AUTHORITY;
            }
            if (next.length < size - 1) {
                return TOO_LONG;
            }
            return allowsNamesBefore(next, size) ? MADE : WRONG_NAME;
        }

        boolean isGood() {
            if (!endsInTrust()) {
                return false;
            }
            for (int place = 0; place < size; place++) {
                Certificate judged = at(place);
                if (judged == null || !isFitAt(judged, place)) {
                    return false;
                }
            }
            return true;
        }

        private boolean isFitAt(Certificate judged, int place) {
            if (judged.refusalOn(day) != MADE) {
                return false;
            }
            return place == 0 || judged.isAuthority() && judged.length >= place - 1
                    && allowsNamesBefore(judged, place);
        }

        private boolean allowsNamesBefore(Certificate behind, int place) {
            for (int earlier = 0; earlier < place; earlier++) {
                Certificate before = at(earlier);
                if (before != null && !behind.allows(before.subject.name)) {
                    return false;
                }
            }
            return true;
        }
    }

    /** The lists that were published, in the order of their days. */
    private static final class Lists {
        final int[] days;
        final long[] members;
        int size;

        Lists() {
            days = new int[MOST_CERTIFICATES];
            members = new long[MOST_CERTIFICATES];
            size = 0;
        }

        void keep(int day, long listed) {
            if (size >= 0 && size < days.length && size < members.length) {
                days[size] = day;
                members[size] = listed;
                size++;
            }
        }

        boolean tellOf(int number, int day) {
            for (int i = 0; i < size && i < days.length && i < members.length; i++) {
                if (days[i] <= day && (members[i] & bitOf(number)) != 0) {
                    return true;
                }
            }
            return false;
        }
    }

    /** A row of hashes from the whole log down to a part of it, which is read from its end. */
    private static final class Proof {
        // Forty entries are divided six times; a proof of growth has one hash more.
        static final int MOST_HASHES = 8;

        final long[] hashes;
        final boolean[] standsFirst;
        int size;

        Proof() {
            hashes = new long[MOST_HASHES];
            standsFirst = new boolean[MOST_HASHES];
            size = 0;
        }

        void clear() {
            size = 0;
        }

        void push(long hash, boolean isOfFirstPart) {
            if (size >= 0 && size < hashes.length && size < standsFirst.length) {
                hashes[size] = hash;
                standsFirst[size] = isOfFirstPart;
                size++;
            }
        }

        boolean hasIndex(int index) {
            return index >= 0 && index < size && size <= hashes.length;
        }

        long hash(int index) {
            return hasIndex(index) ? hashes[size - 1 - index] : 0L;
        }

        long rootFrom(long entryHash) {
            long root = entryHash;
            for (int i = size - 1; i >= 0 && i < hashes.length && i < standsFirst.length; i--) {
                root = standsFirst[i] ? Log.joined(hashes[i], root) : Log.joined(root, hashes[i]);
            }
            return root;
        }
    }

    private static final class Log {
        static final long MODULUS = 1000000007L;
        static final int DEEPEST = 8;

        final long[] entries;
        // The roots of finished parts, while entries are joined one after the other.
        final long[] finished;
        final Proof proof;
        int size;

        Log() {
            entries = new long[MOST_CERTIFICATES];
            finished = new long[DEEPEST];
            proof = new Proof();
            size = 0;
        }

        void append(Certificate certificate) {
            if (size >= 0 && size < entries.length) {
                entries[size] = (131L * certificate.number + 8191L * certificate.subject.name
                        + 127L * certificate.subject.key + 65537L * certificate.issuer.key + 11L)
                        % MODULUS;
                size++;
            }
        }

        long hashOfEntry(int entry) {
            return entry < 0 || entry >= entries.length ? 0L : entries[entry];
        }

        static long joined(long first, long second) {
            return (1009L * first + 9176L * second + 31L) % MODULUS;
        }

        long rootByDividing(int from, int number) {
            return rootOfPart(entries, from, number, 0);
        }

        private static long rootOfPart(long[] entries, int from, int number, int depth) {
            if (from < 0 || from >= entries.length) {
                return 0L;
            }
            if (number <= 1 || depth >= DEEPEST) {
                return entries[from];
            }
            int first = sizeOfFirstPart(number);
            return joined(rootOfPart(entries, from, first, depth + 1),
                    rootOfPart(entries, from + first, number - first, depth + 1));
        }

        private static int sizeOfFirstPart(int number) {
            int first = 1;
            for (int power = 2; power < number && power <= MOST_CERTIFICATES; power *= 2) {
                first = power;
            }
            return first;
        }

        long rootOfJoined(int number) {
            int height = 0;
            for (int entry = 0; entry < number; entry++) {
                long root = hashOfEntry(entry);
                // Each 1 at the end of the entry's index stands for a finished part before it
                // that has as many entries as the part that now ends with this entry.
                for (int bits = entry; bits % 2 == 1 && height > 0; bits /= 2) {
                    height--;
                    root = joined(finishedAt(height), root);
                }
                if (height >= 0 && height < finished.length) {
                    finished[height] = root;
                    height++;
                }
            }
            return rootOfFinished(height);
        }

        private long rootOfFinished(int height) {
            long root = finishedAt(height - 1);
            for (int i = height - 2; i >= 0; i--) {
                root = joined(finishedAt(i), root);
            }
            return root;
        }

        private long finishedAt(int i) {
            return i < 0 || i >= finished.length ? 0L : finished[i];
        }

        Proof proofOfEntry(int entry, int number) {
            proof.clear();
            descend(entry + 1, number, false);
            return proof;
        }

        Proof proofOfGrowth(int smaller, int number) {
            proof.clear();
            descend(smaller, number, true);
            return proof;
        }

        /**
         * Goes down into the part where the smaller size lies and notes the root of each part
         * that it leaves beside its way. The proof of an entry goes on to the entry alone; that
         * of growth stops at the part that the smaller size ends.
         */
        private void descend(int smaller, int number, boolean isOfGrowth) {
            int from = 0;
            int left = number;
            for (int depth = 0; depth < DEEPEST && left > 1; depth++) {
                if (isOfGrowth && smaller == from + left) {
                    break;
                }
                int first = sizeOfFirstPart(left);
                if (smaller <= from + first) {
                    proof.push(rootByDividing(from + first, left - first), false);
                    left = first;
                } else {
                    proof.push(rootByDividing(from, first), true);
                    from += first;
                    left -= first;
                }
            }
            if (isOfGrowth && from > 0) {
                proof.push(rootByDividing(from, left), true);
            }
        }
    }
}
