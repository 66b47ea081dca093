/**
 * A seal that some of several signers make together, none of whom knows the whole secret.
 *
 * <p>All rows are made once, in the constructors, and no call makes an object (but for what it
 * throws). Rows are indexed by the signer's own number; sets of signers are sums of 2^(i - 1).
 */
public final class ThresholdSeal {
    private static final int MOST_SIGNERS = 6;
    private static final long NONE = -1;

    private final int signers;
    private final int enough;
    private final Dealing dealing;
    private final Pairs pairs;
    private final Session session;

    public ThresholdSeal(int signers, int enough) {
        this.signers = Math.min(Math.max(signers, 1), MOST_SIGNERS);
        this.enough = Math.min(Math.max(enough, 1), this.signers);
        this.dealing = new Dealing(this.signers, this.enough);
        this.pairs = new Pairs(this.signers);
        this.session = new Session(this.signers);
    }

    public long deal(long word) {
        dealing.make(word);
        pairs.dropAll();
        session.end();
        return dealing.keyOfAll();
    }

    public long commit(int i, long word) throws IllegalArgumentException, IllegalStateException {
        requireSigner(i);
        requireDealt();
        pairs.open(i, word);
        session.losePair(i);
        return pairs.firstElements[i];
    }

    public long begin(int members, long message) throws IllegalArgumentException, IllegalStateException {
        requireEnough(members);
        requireDealt();
        if (!pairs.areOpen(members)) {
            throw new IllegalStateException("a member has no open pair");
        }
        session.start(members, message, dealing.keyOfAll(), pairs);
        return session.product;
    }

    public long sign(int i) throws IllegalArgumentException, IllegalStateException {
        requireSigner(i);
        if (!Signers.has(session.pairSet, i)) {
            throw new IllegalStateException("no member of a session, or his pair is gone");
        }
        session.makeShare(i, dealing.secrets[i], pairs);
        session.losePair(i);
        pairs.drop(i);
        return session.shares[i];
    }

    public boolean submit(int i, long z) throws IllegalArgumentException, IllegalStateException {
        requireSigner(i);
        requireNumber(z);
        requireUntaken(i);
        return session.tell(i, z, dealing.keys[i]);
    }

    public boolean relay(int i, long more) throws IllegalArgumentException, IllegalStateException {
        requireSigner(i);
        requireNumber(more);
        requireUntaken(i);
        if (!Signers.has(session.madeSet, i)) {
            throw new IllegalStateException("the member made no share in this session");
        }
        return session.tell(i, Numbers.plus(session.shares[i], more), dealing.keys[i]);
    }

    public long seal() throws IllegalStateException {
        requireSealed();
        return session.sum;
    }

    public boolean check(long message, long r, long z) {
        return dealing.done && sealHolds(message, r, z);
    }

    public boolean holds(long message, long more) throws IllegalArgumentException, IllegalStateException {
        requireNumber(more);
        requireSealed();
        return sealHolds(message, session.product, Numbers.plus(session.sum, more));
    }

    public long recover(int members) throws IllegalArgumentException, IllegalStateException {
        requireEnough(members);
        requireDealt();
        long sum = 0;
        for (int i = 1; i <= signers; i++) {
            if (Signers.has(members, i)) {
                long part = Numbers.times(Signers.weightIn(members, i, signers), dealing.secrets[i]);
                sum = Numbers.plus(sum, part);
            }
        }
        return sum;
    }

    public long key(int i) {
        boolean known = dealing.done && (i == 0 || isSigner(i));
        return known ? dealing.keys[i] : NONE;
    }

    public long secret(int i) {
        return dealing.done && isSigner(i) ? dealing.secrets[i] : NONE;
    }

    public long commitment(int i, boolean second) {
        if (!isSigner(i) || !Signers.has(pairs.openSet, i)) {
            return NONE;
        }
        return second ? pairs.secondElements[i] : pairs.firstElements[i];
    }

    public long factor(int i) {
        return isMember(i) ? session.factors[i] : NONE;
    }

    public long weight(int i) {
        return isMember(i) ? session.weights[i] : NONE;
    }

    public long challenge() {
        return session.isOn() ? session.challengeNumber : NONE;
    }

    public int members() {
        return session.memberSet;
    }

    public int taken() {
        return session.takenSet;
    }

    public int blamed() {
        return session.blamedSet;
    }

    private boolean isSigner(int i) {
        return i >= 1 && i <= signers;
    }

    private boolean isMember(int i) {
        return isSigner(i) && Signers.has(session.memberSet, i);
    }

    private boolean sealHolds(long message, long r, long z) {
        if (!Elements.isElement(r) || !Numbers.isNumber(z)) {
            return false;
        }
        long y = dealing.keyOfAll();
        long c = Digest.ofSeal(r, y, message);
        return Elements.ofNumber(z) == Elements.times(r, Elements.power(y, c));
    }

    private void requireSigner(int i) {
        if (!isSigner(i)) {
            throw new IllegalArgumentException("no such signer");
        }
    }

    private void requireNumber(long x) {
        if (!Numbers.isNumber(x)) {
            throw new IllegalArgumentException("no number");
        }
    }

    private void requireEnough(int set) {
        // The shift without sign lets a negative set, which has signer 32, fail here too.
        if (set >>> signers != 0 || Integer.bitCount(set) < enough) {
            throw new IllegalArgumentException("a signer that there is none, or too few");
        }
    }

    private void requireDealt() {
        if (!dealing.done) {
            throw new IllegalStateException("nothing is dealt");
        }
    }

    private void requireUntaken(int i) {
        if (!isMember(i) || Signers.has(session.takenSet, i)) {
            throw new IllegalStateException("no member of a session, or his share is taken");
        }
    }

    private void requireSealed() {
        if (!session.isOn() || session.takenSet != session.memberSet) {
            throw new IllegalStateException("no session, or a share is not taken");
        }
    }

    /** The numbers 0 .. Q - 1, reckoned modulo Q; every argument is a number. */
    private static final class Numbers {
        static final long Q = 1073741789L;
        static final int BITS = 30;

        static boolean isNumber(long x) {
            return x >= 0 && x < Q;
        }

        static long plus(long a, long b) {
            return (a + b) % Q;
        }

        static long minus(long a, long b) {
            return (a + Q - b) % Q;
        }

        static long times(long a, long b) {
            return a * b % Q;
        }

        /** As Q is prime, x^(Q - 2) is 1 / x for every x but 0. */
        static long inverse(long x) {
            long result = 1;
            for (int bit = BITS - 1; bit >= 0; bit--) {
                result = times(result, result);
                if (((Q - 2) >> bit & 1) == 1) {
                    result = times(result, x);
                }
            }
            return result;
        }
    }

    /** The elements 1 .. P - 1, multiplied modulo P; exponents are numbers. */
    private static final class Elements {
        static final long P = 2147483579L;
        static final long BASE = 4;

        static boolean isElement(long x) {
            return x >= 1 && x < P;
        }

        static long times(long a, long b) {
            return a * b % P;
        }

        static long power(long element, long number) {
            long result = 1;
            for (int bit = Numbers.BITS - 1; bit >= 0; bit--) {
                result = times(result, result);
                if ((number >> bit & 1) == 1) {
                    result = times(result, element);
                }
            }
            return result;
        }

        static long ofNumber(long number) {
            return power(BASE, number);
        }
    }

    /** Digests, taken long by long so that no row of longs has to be made. */
    private static final class Digest {
        static final long MULTIPLIER = 0x9E3779B97F4A7C15L;

        static long mix(long h, long x) {
            long mixed = (h ^ x) * MULTIPLIER;
            return mixed ^ (mixed >>> 31);
        }

        static long finish(long h) {
            return (h >>> 1) % Numbers.Q;
        }

        static long ofThree(long kind, long a, long b) {
            return finish(mix(mix(mix(0, kind), a), b));
        }

        static long ofSeal(long r, long y, long message) {
            return finish(mix(mix(mix(mix(0, 5), r), y), message));
        }
    }

    /** Sets of signers, told as sums of 2^(i - 1). */
    private static final class Signers {
        static int only(int i) {
            return 1 << (i - 1);
        }

        static boolean has(int set, int i) {
            return (set & only(i)) != 0;
        }

        /** The weight of signer i among the set; one division at the end does for all of them. */
        static long weightIn(int set, int i, int signers) {
            long above = 1;
            long below = 1;
            for (int j = 1; j <= signers; j++) {
                if (j != i && has(set, j)) {
                    above = Numbers.times(above, j);
                    below = Numbers.times(below, Numbers.minus(j, i));
                }
            }
            return Numbers.times(above, Numbers.inverse(below));
        }
    }

    /** What was dealt last. Index 0 of the rows is the whole secret and the key of all. */
    private static final class Dealing {
        final int signers;
        final int enough;
        final long[] coefficients;
        final long[] secrets;
        final long[] keys;
        boolean done;

        Dealing(int signers, int enough) {
            this.signers = signers;
            this.enough = enough;
            this.coefficients = new long[enough];
            this.secrets = new long[signers + 1];
            this.keys = new long[signers + 1];
        }

        void make(long word) {
            for (int k = 0; k < enough; k++) {
                coefficients[k] = Digest.ofThree(1, word, k);
            }
            for (int i = 0; i <= signers; i++) {
                secrets[i] = valueAt(i);
                keys[i] = Elements.ofNumber(secrets[i]);
            }
            done = true;
        }

        long keyOfAll() {
            return keys[0];
        }

        private long valueAt(int i) {
            long value = 0;
            for (int k = enough - 1; k >= 0; k--) {
                value = Numbers.plus(Numbers.times(value, i), coefficients[k]);
            }
            return value;
        }
    }

    /** The pairs of the signers; what the rows hold counts only where the pair is open. */
    private static final class Pairs {
        final long[] firstNumbers;
        final long[] secondNumbers;
        final long[] firstElements;
        final long[] secondElements;
        int openSet;

        Pairs(int signers) {
            this.firstNumbers = new long[signers + 1];
            this.secondNumbers = new long[signers + 1];
            this.firstElements = new long[signers + 1];
            this.secondElements = new long[signers + 1];
        }

        void open(int i, long word) {
            firstNumbers[i] = Digest.ofThree(2, word, i);
            secondNumbers[i] = Digest.ofThree(3, word, i);
            firstElements[i] = Elements.ofNumber(firstNumbers[i]);
            secondElements[i] = Elements.ofNumber(secondNumbers[i]);
            openSet |= Signers.only(i);
        }

        boolean areOpen(int set) {
            return (set & ~openSet) == 0;
        }

        void drop(int i) {
            openSet &= ~Signers.only(i);
        }

        void dropAll() {
            openSet = 0;
        }
    }

    /** The one session there is at a time; it is on when it has members. */
    private static final class Session {
        final int signers;
        /** D and E as they were at the start: a member may commit anew while the session is on. */
        final long[] firstElements;
        final long[] secondElements;
        final long[] factors;
        final long[] weights;
        final long[] shares;
        int memberSet;
        /** The members who still have the pair that they had at the start. */
        int pairSet;
        int madeSet;
        int takenSet;
        int blamedSet;
        long product;
        long challengeNumber;
        /** The sum of the shares that are taken. */
        long sum;

        Session(int signers) {
            this.signers = signers;
            this.firstElements = new long[signers + 1];
            this.secondElements = new long[signers + 1];
            this.factors = new long[signers + 1];
            this.weights = new long[signers + 1];
            this.shares = new long[signers + 1];
        }

        boolean isOn() {
            return memberSet != 0;
        }

        void end() {
            reset(0);
        }

        void start(int set, long message, long keyOfAll, Pairs pairs) {
            reset(set);
            for (int i = 1; i <= signers; i++) {
                firstElements[i] = pairs.firstElements[i];
                secondElements[i] = pairs.secondElements[i];
            }
            for (int i = 1; i <= signers; i++) {
                if (Signers.has(set, i)) {
                    factors[i] = factorFor(i, message, keyOfAll);
                    weights[i] = Signers.weightIn(set, i, signers);
                    product = Elements.times(product, toldPart(i));
                }
            }
            challengeNumber = Digest.ofSeal(product, keyOfAll, message);
        }

        void losePair(int i) {
            pairSet &= ~Signers.only(i);
        }

        /** Member i's pair must still be the one that he had at the start. */
        void makeShare(int i, long secretOfHis, Pairs pairs) {
            long pairPart = Numbers.plus(pairs.firstNumbers[i], Numbers.times(pairs.secondNumbers[i], factors[i]));
            shares[i] = Numbers.plus(pairPart, Numbers.times(keyExponent(i), secretOfHis));
            madeSet |= Signers.only(i);
        }

        boolean tell(int i, long z, long keyOfHis) {
            if (!isRight(i, z, keyOfHis)) {
                blamedSet |= Signers.only(i);
                return false;
            }
            takenSet |= Signers.only(i);
            sum = Numbers.plus(sum, z);
            return true;
        }

        private void reset(int set) {
            memberSet = set;
            pairSet = set;
            madeSet = 0;
            takenSet = 0;
            blamedSet = 0;
            product = 1;
            sum = 0;
        }

        private long factorFor(int i, long message, long keyOfAll) {
            long h = Digest.mix(Digest.mix(0, 4), keyOfAll);
            h = Digest.mix(Digest.mix(h, message), i);
            for (int j = 1; j <= signers; j++) {
                if (Signers.has(memberSet, j)) {
                    h = Digest.mix(Digest.mix(h, j), firstElements[j]);
                    h = Digest.mix(h, secondElements[j]);
                }
            }
            return Digest.finish(h);
        }

        /** D * E^f(i), member i's part of R. */
        private long toldPart(int i) {
            return Elements.times(firstElements[i], Elements.power(secondElements[i], factors[i]));
        }

        private long keyExponent(int i) {
            return Numbers.times(challengeNumber, weights[i]);
        }

        private boolean isRight(int i, long z, long keyOfHis) {
            long keyPart = Elements.power(keyOfHis, keyExponent(i));
            return Elements.ofNumber(z) == Elements.times(toldPart(i), keyPart);
        }
    }
}
