import java.math.BigInteger;
import java.util.ArrayList;
import java.util.HashMap;
import java.util.List;
import java.util.Map;
import java.util.TreeMap;

/**
 * The document a second time, by other means than the program: BigInteger, pairs that are told
 * apart as objects, shares that are right when they are the one number that they should be.
 * Outcomes are numbers as in Checks.
 */
final class SealModel {
    static final long P = 2147483579L;
    static final long Q = 1073741789L;
    private static final BigInteger BIG_P = BigInteger.valueOf(P);
    private static final BigInteger BIG_Q = BigInteger.valueOf(Q);

    private record Pair(int owner, long d, long e) {
        boolean is(Pair other) {
            return this == other;
        }
    }

    private static final class Meeting {
        final TreeMap<Integer, Pair> pairs = new TreeMap<>();
        final Map<Integer, Long> made = new HashMap<>();
        final Map<Integer, Long> taken = new HashMap<>();
        final List<Integer> blamed = new ArrayList<>();
        long message;
        long r;
        long c;
    }

    final int n;
    final int t;
    private long[] coefficients;
    private final Map<Integer, Pair> open = new HashMap<>();
    private Meeting meeting;

    SealModel(int signers, int enough) {
        n = signers < 1 ? 1 : signers > 6 ? 6 : signers;
        t = enough < 1 ? 1 : enough > n ? n : enough;
    }

    // ---- reckoning

    static long digest(long... longs) {
        long h = 0;
        for (long x : longs) {
            h = (h ^ x) * 0x9E3779B97F4A7C15L;
            h = h ^ (h >>> 31);
        }
        return (h >>> 1) % Q;
    }

    static long number(BigInteger x) {
        return x.mod(BIG_Q).longValueExact();
    }

    static BigInteger big(long x) {
        return BigInteger.valueOf(x);
    }

    static long raise(long element, long exponent) {
        return big(element).modPow(big(exponent), BIG_P).longValueExact();
    }

    static long four(long exponent) {
        return raise(4, exponent);
    }

    static long multiply(long a, long b) {
        return big(a).multiply(big(b)).mod(BIG_P).longValueExact();
    }

    static List<Integer> listed(int set) {
        List<Integer> list = new ArrayList<>();
        for (int i = 1; i <= 32; i++) {
            if ((set >>> (i - 1)) % 2 != 0) {
                list.add(i);
            }
        }
        return list;
    }

    static int told(Iterable<Integer> list) {
        int set = 0;
        for (int i : list) {
            set |= (int) Math.pow(2, i - 1);
        }
        return set;
    }

    static long weightAmong(List<Integer> list, int i) {
        BigInteger product = BigInteger.ONE;
        for (int j : list) {
            if (j != i) {
                product = product.multiply(big(j)).multiply(big(j - i).modInverse(BIG_Q)).mod(BIG_Q);
            }
        }
        return number(product);
    }

    long secretOf(int i) {
        BigInteger sum = BigInteger.ZERO;
        for (int k = 0; k < t; k++) {
            sum = sum.add(big(coefficients[k]).multiply(big(i).pow(k)));
        }
        return number(sum);
    }

    private long y() {
        return four(coefficients[0]);
    }

    private boolean signer(int i) {
        return 1 <= i && i <= n;
    }

    private boolean member(int i) {
        return meeting != null && meeting.pairs.containsKey(i);
    }

    private static boolean isNumber(long x) {
        return 0 <= x && x < Q;
    }

    private boolean goodSet(int set) {
        List<Integer> list = listed(set);
        return list.size() >= t && list.stream().allMatch(this::signer);
    }

    private long factorOf(int i) {
        List<Long> longs = new ArrayList<>(List.of(4L, y(), meeting.message, (long) i));
        for (Pair pair : meeting.pairs.values()) {
            longs.addAll(List.of((long) pair.owner, four(pair.d), four(pair.e)));
        }
        return digest(longs.stream().mapToLong(Long::longValue).toArray());
    }

    /** The one number that is right for member i, whether he made his share or not. */
    long rightShare(int i) {
        Pair pair = meeting.pairs.get(i);
        BigInteger keyPart = big(meeting.c).multiply(big(weight(i))).multiply(big(secretOf(i)));
        return number(big(pair.d).add(big(pair.e).multiply(big(factorOf(i)))).add(keyPart));
    }

    // ---- the calls of the face

    long deal(long word) {
        coefficients = new long[t];
        for (int k = 0; k < t; k++) {
            coefficients[k] = digest(1, word, k);
        }
        open.clear();
        meeting = null;
        return y();
    }

    long commit(int i, long word) {
        if (!signer(i)) {
            return Checks.ILLEGAL_ARGUMENT;
        }
        if (coefficients == null) {
            return Checks.ILLEGAL_STATE;
        }
        open.put(i, new Pair(i, digest(2, word, i), digest(3, word, i)));
        return commitment(i, false);
    }

    long begin(int set, long message) {
        if (!goodSet(set)) {
            return Checks.ILLEGAL_ARGUMENT;
        }
        List<Integer> list = listed(set);
        if (coefficients == null || !open.keySet().containsAll(list)) {
            return Checks.ILLEGAL_STATE;
        }
        meeting = new Meeting();
        meeting.message = message;
        for (int i : list) {
            meeting.pairs.put(i, open.get(i));
        }
        meeting.r = 1;
        for (Pair pair : meeting.pairs.values()) {
            long part = multiply(four(pair.d), raise(four(pair.e), factorOf(pair.owner)));
            meeting.r = multiply(meeting.r, part);
        }
        meeting.c = digest(5, meeting.r, y(), message);
        return meeting.r;
    }

    long sign(int i) {
        if (!signer(i)) {
            return Checks.ILLEGAL_ARGUMENT;
        }
        if (!member(i) || !meeting.pairs.get(i).is(open.get(i))) {
            return Checks.ILLEGAL_STATE;
        }
        open.remove(i);
        meeting.made.put(i, rightShare(i));
        return rightShare(i);
    }

    private long tell(int i, long z) {
        if (z == rightShare(i)) {
            meeting.taken.put(i, z);
            return 1;
        }
        meeting.blamed.add(i);
        return 0;
    }

    long submit(int i, long z) {
        if (!signer(i) || !isNumber(z)) {
            return Checks.ILLEGAL_ARGUMENT;
        }
        if (!member(i) || meeting.taken.containsKey(i)) {
            return Checks.ILLEGAL_STATE;
        }
        return tell(i, z);
    }

    long relay(int i, long more) {
        if (!signer(i) || !isNumber(more)) {
            return Checks.ILLEGAL_ARGUMENT;
        }
        if (!member(i) || !meeting.made.containsKey(i) || meeting.taken.containsKey(i)) {
            return Checks.ILLEGAL_STATE;
        }
        return tell(i, number(big(meeting.made.get(i)).add(big(more))));
    }

    long seal() {
        if (meeting == null || !meeting.taken.keySet().equals(meeting.pairs.keySet())) {
            return Checks.ILLEGAL_STATE;
        }
        BigInteger sum = BigInteger.ZERO;
        for (long z : meeting.taken.values()) {
            sum = sum.add(big(z));
        }
        return number(sum);
    }

    long check(long message, long r, long z) {
        if (coefficients == null || r < 1 || r >= P || !isNumber(z)) {
            return 0;
        }
        return Checks.bit(four(z) == multiply(r, raise(y(), digest(5, r, y(), message))));
    }

    long holds(long message, long more) {
        if (!isNumber(more)) {
            return Checks.ILLEGAL_ARGUMENT;
        }
        long sum = seal();
        if (sum == Checks.ILLEGAL_STATE) {
            return sum;
        }
        return check(message, meeting.r, number(big(sum).add(big(more))));
    }

    long recover(int set) {
        if (!goodSet(set)) {
            return Checks.ILLEGAL_ARGUMENT;
        }
        // What T or more secrets say together is the whole secret: that is what the weights are for.
        return coefficients == null ? Checks.ILLEGAL_STATE : coefficients[0];
    }

    long key(int i) {
        if (coefficients == null || i < 0 || i > n) {
            return -1;
        }
        return i == 0 ? y() : four(secretOf(i));
    }

    long secret(int i) {
        return coefficients != null && signer(i) ? secretOf(i) : -1;
    }

    long commitment(int i, boolean second) {
        Pair pair = open.get(i);
        if (pair == null) {
            return -1;
        }
        return four(second ? pair.e : pair.d);
    }

    long factor(int i) {
        return member(i) ? factorOf(i) : -1;
    }

    long weight(int i) {
        return member(i) ? weightAmong(List.copyOf(meeting.pairs.keySet()), i) : -1;
    }

    long challenge() {
        return meeting == null ? -1 : meeting.c;
    }

    long members() {
        return meeting == null ? 0 : told(meeting.pairs.keySet());
    }

    long taken() {
        return meeting == null ? 0 : told(meeting.taken.keySet());
    }

    long blamed() {
        return meeting == null ? 0 : told(meeting.blamed);
    }

    boolean inSession(int i) {
        return member(i);
    }

    /** R of the session; a session must be there. */
    long product() {
        return meeting.r;
    }

    /** The message of the session, 0 when there is none. */
    long message() {
        return meeting == null ? 0 : meeting.message;
    }
}
