import java.math.BigInteger;

/**
 * Words and messages that make a digest come out as a test wants it. Each step of a digest can be
 * undone, so the long that is still free is reckoned from both ends.
 */
final class Crafted {
    private static final BigInteger WRAP = BigInteger.ONE.shiftLeft(64);
    private static final BigInteger MULTIPLIER = new BigInteger("9E3779B97F4A7C15", 16);
    private static final long UNDO = MULTIPLIER.modInverse(WRAP).longValue();

    private Crafted() {
    }

    /** The digest as the document words it, in numbers without a sign. */
    static long digest(long... longs) {
        BigInteger h = BigInteger.ZERO;
        for (long x : longs) {
            h = h.xor(BigInteger.valueOf(x).mod(WRAP)).multiply(MULTIPLIER).mod(WRAP);
            h = h.xor(h.shiftRight(31));
        }
        return h.shiftRight(1).mod(BigInteger.valueOf(SealModel.Q)).longValueExact();
    }

    /** A last h whose digest is the number. */
    static long lastFor(long number) {
        return 2 * number;
    }

    /** The word w for which kind, w, last come to an h. */
    static long word(long kind, long last, long h) {
        return message(new long[] {kind}, new long[] {last}, h);
    }

    /** The long between the front and the back for which they come to an h together. */
    static long message(long[] front, long[] back, long h) {
        long from = 0;
        for (long x : front) {
            from = forward(from, x);
        }
        long to = h;
        for (int k = back.length - 1; k >= 0; k--) {
            to = unmixed(to) ^ back[k];
        }
        return unmixed(to) ^ from;
    }

    private static long forward(long h, long x) {
        long mixed = (h ^ x) * MULTIPLIER.longValue();
        return mixed ^ (mixed >>> 31);
    }

    private static long unmixed(long h) {
        return (h ^ (h >>> 31) ^ (h >>> 62)) * UNDO;
    }
}
