import java.util.List;

/**
 * The sentences of "What it is" and of "Terms" that name a boundary, each in a test of its own.
 * Words and messages are crafted so that numbers and elements come to stand at their bounds.
 */
public final class TermsTest {
    private static final long Q = SealModel.Q;
    private static final long P = SealModel.P;

    private final Checks checks = new Checks();

    public static void main(String[] args) {
        TermsTest test = new TermsTest();
        test.atMost512Calls();
        test.dearestCallsUpTo512();
        test.refusedCallsUpTo512();
        test.numbersFromNought();
        test.numbersUpToLast();
        test.secretsWrapAround();
        test.shareWrapsAround();
        test.sumWrapsAround();
        test.sumWithMoreWrapsAround();
        test.elementsFromOne();
        test.elementsUpToLast();
        test.fourToTheQIsOne();
        test.digestWraps();
        test.digestEndsWithoutSign();
        test.digestTakesAnyLong();
        test.coefficientsUpToEnough();
        test.pairsGoneWhenDealt();
        test.noSessionWhenDealt();
        test.openPairGoneWhenCommittedAnew();
        test.enoughMembersOrMore();
        test.weightOfOnlyMember();
        test.weightBelowNought();
        test.factorAtItsBounds();
        test.challengeAtItsBounds();
        test.pairOfTheBeginning();
        test.sealOfAllMembers();
        test.sealHoldsAtTheBounds();
        test.checks.end("TermsTest");
    }

    // ---- an object of one signer with crafted numbers

    /** Deals so that the secret of the only signer, who is enough, is the number. */
    private static ThresholdSeal withSecret(long number) {
        ThresholdSeal x = new ThresholdSeal(1, 1);
        x.deal(wordOfSecret(number));
        return x;
    }

    private static long wordOfSecret(long number) {
        return Crafted.word(1, 0, Crafted.lastFor(number));
    }

    private static long wordOfFirst(int i, long d) {
        return Crafted.word(2, i, Crafted.lastFor(d));
    }

    private static long wordOfSecond(int i, long e) {
        return Crafted.word(3, i, Crafted.lastFor(e));
    }

    /** The message with which signer 1, alone, has the factor. */
    private static long messageOfFactor(ThresholdSeal x, long factor) {
        long[] front = {4, x.key(0)};
        long[] back = {1, 1, x.commitment(1, false), x.commitment(1, true)};
        return Crafted.message(front, back, Crafted.lastFor(factor));
    }

    /** The message with which a seal of r has the challenge. */
    private static long messageOfChallenge(long r, long y, long challenge) {
        return Crafted.message(new long[] {5, r, y}, new long[0], Crafted.lastFor(challenge));
    }

    // ---- What it is

    private void atMost512Calls() {
        checks.sentence("An object is used for at most 512 calls after it has been made");
        ThresholdSeal x = Made.fresh();
        for (int call = 1; call <= 511; call++) {
            int word = call;
            checks.due("deal(" + call + ")", SealModel.four(Crafted.digest(1, word, 0)), () -> x.deal(word));
        }
        checks.due("deal(12345), call 512", Made.Y, () -> x.deal(12345));
        ThresholdSeal looked = Made.sealed();
        for (int call = 12; call <= 512; call++) {
            checks.due("seal(), call " + call, Made.SUM, looked::seal);
        }
    }

    /** Sessions of all six, one after another: 1 + 25 * 20 + 10 calls, and one more. */
    private void dearestCallsUpTo512() {
        checks.sentence("An object is used for at most 512 calls after it has been made");
        ThresholdSeal x = new ThresholdSeal(6, 6);
        x.deal(1);
        for (int session = 0; session < 25; session++) {
            wholeSession(x, 63, session);
            checks.yes("holds(" + session + ", 0)", x.holds(session, 0));
        }
        SealModel model = sealedModel(24);
        for (int call = 502; call <= 511; call++) {
            checks.due("challenge(), call " + call, model.challenge(), x::challenge);
        }
        checks.due("check(..), call 512", 1, () -> Checks.bit(x.check(24, model.product(), model.seal())));
    }

    private static SealModel sealedModel(long message) {
        SealModel model = new SealModel(6, 6);
        model.deal(1);
        for (int i = 1; i <= 6; i++) {
            model.commit(i, message);
        }
        model.begin(63, message);
        for (int i = 1; i <= 6; i++) {
            model.sign(i);
            model.relay(i, 0);
        }
        return model;
    }

    /** Commits, begins, signs and relays: every share must come to be taken. */
    private void wholeSession(ThresholdSeal x, int members, long message) {
        List<Integer> list = SealModel.listed(members);
        for (int i : list) {
            x.commit(i, message);
        }
        x.begin(members, message);
        for (int i : list) {
            x.sign(i);
            checks.yes("relay(" + i + ", 0) among " + members, x.relay(i, 0));
        }
    }

    private void refusedCallsUpTo512() {
        checks.sentence("An object is used for at most 512 calls after it has been made");
        ThresholdSeal x = Made.committed();
        for (int call = 5; call <= 510; call++) {
            checks.due("seal(), call " + call, Checks.ILLEGAL_STATE, x::seal);
        }
        checks.due("begin(11, 99), call 511", Made.R, () -> x.begin(11, 99));
        checks.due("sign(1), call 512", Made.SHARE_1, () -> x.sign(1));
    }

    // ---- numbers and elements

    private void numbersFromNought() {
        checks.sentence("NUMBERS are 0 .. Q - 1");
        ThresholdSeal x = withSecret(0);
        checks.due("a secret of 0", 0, () -> x.secret(1));
        checks.due("D of d = 0", 1, () -> x.commit(1, wordOfFirst(1, 0)));
        long message = messageOfFactor(x, 0);
        checks.due("R of d = 0 and a factor of 0", 1, () -> x.begin(1, message));
        checks.due("a factor of 0", 0, () -> x.factor(1));
        checks.due("submit(1, -1)", Checks.ILLEGAL_ARGUMENT, () -> Checks.bit(x.submit(1, -1)));
        checks.due("submit(1, Q), which is 0 modulo Q", Checks.ILLEGAL_ARGUMENT, () -> Checks.bit(x.submit(1, Q)));
        checks.due("a share of 0", 0, () -> x.sign(1));
        checks.due("submit(1, 1)", 0, () -> Checks.bit(x.submit(1, 1)));
        checks.due("submit(1, 0), which is right", 1, () -> Checks.bit(x.submit(1, 0)));
        checks.due("a sum of 0", 0, x::seal);
        checks.due("it holds", 1, () -> Checks.bit(x.holds(message, 0)));
    }

    private void numbersUpToLast() {
        checks.sentence("NUMBERS are 0 .. Q - 1");
        ThresholdSeal x = withSecret(0);
        x.commit(1, wordOfFirst(1, Q - 1));
        long message = messageOfFactor(x, 0);
        checks.due("R of d = Q - 1 and a factor of 0", SealModel.four(Q - 1), () -> x.begin(1, message));
        checks.due("submit(1, -1), which is Q - 1 modulo Q", Checks.ILLEGAL_ARGUMENT, () -> Checks.bit(x.submit(1, -1)));
        checks.due("submit(1, Q)", Checks.ILLEGAL_ARGUMENT, () -> Checks.bit(x.submit(1, Q)));
        checks.due("a share of Q - 1", Q - 1, () -> x.sign(1));
        checks.due("relay(1, 1), which is 0", 0, () -> Checks.bit(x.relay(1, 1)));
        checks.due("relay(1, Q - 1), which is Q - 2", 0, () -> Checks.bit(x.relay(1, Q - 1)));
        checks.due("submit(1, Q - 1), which is right", 1, () -> Checks.bit(x.submit(1, Q - 1)));
        checks.due("a sum of Q - 1", Q - 1, x::seal);
        checks.due("it holds", 1, () -> Checks.bit(x.holds(message, 0)));
        checks.due("with 1 more it is 0", 0, () -> Checks.bit(x.holds(message, 1)));
        checks.due("a secret of Q - 1", Q - 1, () -> withSecret(Q - 1).secret(1));
    }

    private void secretsWrapAround() {
        checks.sentence("NUMBERS are reckoned modulo Q");
        for (int k = 0; k < 6; k++) {
            long word = Crafted.word(1, k, Crafted.lastFor(Q - 1));
            ThresholdSeal x = new ThresholdSeal(6, 6);
            SealModel model = new SealModel(6, 6);
            x.deal(word);
            model.deal(word);
            for (int i = 1; i <= 6; i++) {
                int signer = i;
                checks.due("secret(" + i + ") when a(" + k + ") is Q - 1", model.secretOf(i), () -> x.secret(signer));
            }
            long whole = Crafted.digest(1, word, 0);
            checks.due("recover(63) when a(" + k + ") is Q - 1", whole, () -> x.recover(63));
        }
        checks.due("recover(1) of Q - 1", Q - 1, () -> withSecret(Q - 1).recover(1));
        checks.due("recover(1) of 0", 0, () -> withSecret(0).recover(1));
    }

    private void shareWrapsAround() {
        checks.sentence("NUMBERS are reckoned modulo Q");
        // e is 0, so R is D whatever the message is, and the message is free to make the challenge.
        for (long challenge : new long[] {Q - 1, 1}) {
            ThresholdSeal x = withSecret(Q - 1);
            long word = wordOfSecond(1, 0);
            long d = Crafted.digest(2, word, 1);
            long r = x.commit(1, word);
            checks.due("E of e = 0", 1, () -> x.commitment(1, true));
            long message = messageOfChallenge(r, x.key(0), challenge);
            checks.due("R of e = 0", r, () -> x.begin(1, message));
            checks.due("a challenge of " + challenge, challenge, x::challenge);
            long share = (d + Q - challenge) % Q;
            checks.due("d + c * (Q - 1)", share, () -> x.sign(1));
            checks.due("which is right", 1, () -> Checks.bit(x.relay(1, 0)));
        }
    }

    /** Two shares that are Q together; their pairs are such that R is 4^Q. */
    private void sumWrapsAround() {
        checks.sentence("NUMBERS are reckoned modulo Q");
        ThresholdSeal x = new ThresholdSeal(2, 1);
        x.deal(wordOfSecret(0));
        long second = wordOfSecond(2, 0);
        long shareOf2 = Crafted.digest(2, second, 2);
        x.commit(1, wordOfFirst(1, Q - shareOf2));
        x.commit(2, second);
        long[] back = {1, 1, x.commitment(1, false), x.commitment(1, true), 2, x.commitment(2, false), 1};
        long message = Crafted.message(new long[] {4, 1}, back, Crafted.lastFor(0));
        checks.due("R", 1, () -> x.begin(3, message));
        checks.due("factor(1)", 0, () -> x.factor(1));
        checks.due("sign(1)", Q - shareOf2, () -> x.sign(1));
        checks.due("sign(2)", shareOf2, () -> x.sign(2));
        checks.due("relay(1, 0)", 1, () -> Checks.bit(x.relay(1, 0)));
        checks.due("relay(2, 0)", 1, () -> Checks.bit(x.relay(2, 0)));
        checks.due("seal(), shares that are Q together", 0, x::seal);
        checks.due("it holds", 1, () -> Checks.bit(x.holds(message, 0)));
        checks.due("check(message, 1, 0)", 1, () -> Checks.bit(x.check(message, 1, 0)));
    }

    /** For another message the sum needs more, so that it holds: (its challenge - c) * a(0). */
    private void sumWithMoreWrapsAround() {
        checks.sentence("holds: the seal of the session, with more added to its sum");
        ThresholdSeal x = Made.sealed();
        int wrapped = 0;
        for (long message = 0; message < 40; message++) {
            long z = dueSum(SealModel.digest(5, Made.R, Made.Y, message));
            wrapped += z < Made.SUM ? 1 : 0;
            moreComesTo(x, message, z);
        }
        checks.yes("some wrap around and some do not", wrapped > 0 && wrapped < 40);
        for (long z : new long[] {0, 1, Q - 1, Made.SUM - 1, Made.SUM + 1}) {
            // The challenge for which R, z holds is (z - k) / a(0), with R = 4^k.
            long k = dueSum(0);
            long inverse = SealModel.big(Made.WHOLE_SECRET).modInverse(SealModel.big(Q)).longValueExact();
            long challenge = SealModel.number(SealModel.big(z - k).multiply(SealModel.big(inverse)));
            moreComesTo(x, messageOfChallenge(Made.R, Made.Y, challenge), z);
        }
    }

    private static long dueSum(long challenge) {
        long off = challenge - Made.CHALLENGE;
        return SealModel.number(SealModel.big(off).multiply(SealModel.big(Made.WHOLE_SECRET)).add(SealModel.big(Made.SUM)));
    }

    private void moreComesTo(ThresholdSeal x, long message, long z) {
        long more = (z - Made.SUM + Q) % Q;
        checks.due("holds(" + message + ", " + more + "), z is " + z, 1, () -> Checks.bit(x.holds(message, more)));
        checks.due("check(" + message + ", R, " + z + ")", 1, () -> Checks.bit(x.check(message, Made.R, z)));
        checks.due("holds(" + message + ", next)", 0, () -> Checks.bit(x.holds(message, (more + 1) % Q)));
    }

    private void elementsFromOne() {
        checks.sentence("ELEMENTS are 1 .. P - 1");
        ThresholdSeal x = Made.dealt();
        checkAs(x, 1, 0, 0, true);
        checkAs(x, 1, 0, 1, false);
        for (long z : new long[] {0, 1, Q - 1}) {
            checkAs(x, 0, 0, z, false);
            checkAs(x, -1, 0, z, false);
            checkAs(x, 1 - P, 0, z, false);
            checkAs(x, Long.MIN_VALUE, 0, z, false);
        }
        checkAs(x, 4 - P, 0, 1, false);
        checkAs(x, -P, 0, 0, false);
    }

    private void elementsUpToLast() {
        checks.sentence("ELEMENTS are 1 .. P - 1");
        ThresholdSeal x = Made.dealt();
        for (long z : new long[] {0, 1, Q - 1}) {
            // P - 1 is an element, but none of the 4^x.
            checkAs(x, P - 1, 0, z, false);
            checkAs(x, P, 0, z, false);
            checkAs(x, P + 1, 0, z, false);
            checkAs(x, SealModel.four(z) + P, 0, z, false);
            checkAs(x, SealModel.four(z) + (P << 31), 0, z, false);
            checkAs(x, SealModel.four(z) + (1L << 32), 0, z, false);
        }
        // 2^Q is P - 1, so P - 2, the largest of the 4^x, is 2^(Q + 1).
        checkAs(x, P - 2, 0, (Q + 1) / 2, true);
        checkAs(x, P - 2, 0, (Q - 1) / 2, false);
    }

    /** The message is one with which r has the challenge. */
    private void checkAs(ThresholdSeal x, long r, long challenge, long z, boolean want) {
        long message = messageOfChallenge(r, x.key(0), challenge);
        checks.due("check(" + message + ", " + r + ", " + z + ")", Checks.bit(want), () -> Checks.bit(x.check(message, r, z)));
    }

    private void fourToTheQIsOne() {
        checks.sentence("4^Q is 1, and 4^x are different elements for different numbers x");
        checks.due("the key of 0", 1, () -> withSecret(0).key(1));
        checks.due("the key of all of 0", 1, () -> withSecret(0).key(0));
        checks.due("deal answers it", 1, () -> new ThresholdSeal(1, 1).deal(wordOfSecret(0)));
        checks.due("the key of 1", 4, () -> withSecret(1).key(1));
        checks.due("the key of 15", 1L << 30, () -> withSecret(15).key(1));
        checks.due("the key of 16 wraps around", (1L << 32) - 2 * P, () -> withSecret(16).key(1));
        // 4 * (P + 1) / 4 is P + 1, which is 1.
        checks.due("the key of Q - 1", (P + 1) / 4, () -> withSecret(Q - 1).key(1));
        ThresholdSeal x = Made.dealt();
        checkAs(x, 1, 0, Q, false);
        checkAs(x, (P + 1) / 4, 0, -1, false);
        checkAs(x, (P + 1) / 4, 0, Q - 1, true);
    }

    // ---- digests

    private void digestWraps() {
        checks.sentence("(h xor x) * 0x9E3779B97F4A7C15 (wrapping)");
        for (long word = -20; word <= 20; word++) {
            digestsOf(word);
            digestsOf(word << 40);
        }
    }

    private void digestsOf(long word) {
        ThresholdSeal x = new ThresholdSeal(1, 1);
        x.deal(word);
        checks.due("secret(1) of deal(" + word + ")", Crafted.digest(1, word, 0), () -> x.secret(1));
        long d = Crafted.digest(2, word, 1);
        checks.due("commit(1, " + word + ")", SealModel.four(d), () -> x.commit(1, word));
        long e = Crafted.digest(3, word, 1);
        checks.due("E of commit(1, " + word + ")", SealModel.four(e), () -> x.commitment(1, true));
    }

    private void digestEndsWithoutSign() {
        checks.sentence("in the end the digest is h shifted right by one without sign, modulo Q");
        long half = SealModel.number(SealModel.big(2).pow(62));
        lastComesTo(0, 0);
        lastComesTo(1, 0);
        lastComesTo(2, 1);
        lastComesTo(2 * Q - 1, Q - 1);
        lastComesTo(2 * Q, 0);
        lastComesTo(2 * Q + 1, 0);
        lastComesTo(2 * Q + 2, 1);
        lastComesTo(Long.MIN_VALUE, half);
        lastComesTo(Long.MIN_VALUE + 1, half);
        lastComesTo(Long.MAX_VALUE, (half + Q - 1) % Q);
        lastComesTo(-1, (2 * half + Q - 1) % Q);
        lastComesTo(-2, (2 * half + Q - 1) % Q);
        lastComesTo(-3, (2 * half + Q - 2) % Q);
    }

    private void lastComesTo(long h, long want) {
        ThresholdSeal x = new ThresholdSeal(1, 1);
        x.deal(Crafted.word(1, 0, h));
        checks.due("a last h of " + h, want, () -> x.secret(1));
    }

    private void digestTakesAnyLong() {
        checks.sentence("The DIGEST of some longs");
        for (long word : new long[] {Long.MIN_VALUE, Long.MIN_VALUE + 1, Long.MAX_VALUE, -1, 0, 1, 1L << 32, Q, P}) {
            digestsOf(word);
            ThresholdSeal x = Made.committed();
            long r = x.begin(11, word);
            long[] longs = {
                4, Made.Y, word, 2, 1, 1896529641L, 1232658980L, 2, 1879898348L, x.commitment(2, true),
                4, 1864358713L, x.commitment(4, true)
            };
            checks.due("factor(2), the message is " + word, Crafted.digest(longs), () -> x.factor(2));
            checks.due("challenge(), the message is " + word, Crafted.digest(5, r, Made.Y, word), x::challenge);
        }
    }

    // ---- deals, pairs, sessions

    private void coefficientsUpToEnough() {
        checks.sentence("the coefficients are the numbers a(k), for k = 0 .. T - 1");
        for (int t = 1; t <= 6; t++) {
            ThresholdSeal x = new ThresholdSeal(6, t);
            SealModel model = new SealModel(6, t);
            x.deal(-5);
            model.deal(-5);
            for (int i = 1; i <= 6; i++) {
                int signer = i;
                checks.due("secret(" + i + "), T is " + t, model.secretOf(i), () -> x.secret(signer));
            }
        }
        ThresholdSeal one = new ThresholdSeal(6, 1);
        one.deal(-5);
        checks.due("secret(6), T is 1", Crafted.digest(1, -5, 0), () -> one.secret(6));
    }

    private void pairsGoneWhenDealt() {
        checks.sentence("All pairs are gone, and there is no session");
        for (long word : new long[] {12345, 0}) {
            ThresholdSeal x = Made.begunAndCommittedAnew();
            x.commit(3, 1);
            x.commit(5, 1);
            x.deal(word);
            for (int i = 1; i <= 5; i++) {
                int signer = i;
                checks.due("commitment(" + i + ", false)", -1, () -> x.commitment(signer, false));
                checks.due("commitment(" + i + ", true)", -1, () -> x.commitment(signer, true));
                int set = 1 << (i - 1) | 1 << (i % 5) | 1 << ((i + 1) % 5);
                checks.due("begin(" + set + ", 1)", Checks.ILLEGAL_STATE, () -> x.begin(set, 1));
            }
        }
    }

    private void noSessionWhenDealt() {
        checks.sentence("All pairs are gone, and there is no session");
        ThresholdSeal x = Made.mixed();
        x.deal(12345);
        checks.due("members()", 0, x::members);
        checks.due("taken()", 0, x::taken);
        checks.due("blamed()", 0, x::blamed);
        checks.due("challenge()", -1, x::challenge);
        checks.due("seal()", Checks.ILLEGAL_STATE, x::seal);
        for (int i : new int[] {1, 2, 4}) {
            checks.due("factor(" + i + ")", -1, () -> x.factor(i));
            checks.due("weight(" + i + ")", -1, () -> x.weight(i));
            checks.due("relay(" + i + ", 0)", Checks.ILLEGAL_STATE, () -> Checks.bit(x.relay(i, 0)));
            checks.due("sign(" + i + ")", Checks.ILLEGAL_STATE, () -> x.sign(i));
        }
        x.commit(1, 10);
        x.commit(2, 20);
        x.commit(4, 30);
        checks.due("the same session once more", Made.R, () -> x.begin(11, 99));
        checks.due("relay(1, 0), made before the deal", Checks.ILLEGAL_STATE, () -> Checks.bit(x.relay(1, 0)));
        checks.due("taken() of it", 0, x::taken);
        checks.due("sign(1)", Made.SHARE_1, () -> x.sign(1));
    }

    private void openPairGoneWhenCommittedAnew() {
        checks.sentence("an open pair that he had is gone");
        ThresholdSeal x = Made.committed();
        x.commit(1, 11);
        long d = SealModel.four(Crafted.digest(2, 11, 1));
        checks.due("D is the new one", d, () -> x.commitment(1, false));
        x.commit(1, 10);
        checks.due("begin(11, 99) with the pair of the word before", Made.R, () -> x.begin(11, 99));
        x.commit(2, 20);
        checks.due("sign(2), the same word but a pair anew", Checks.ILLEGAL_STATE, () -> x.sign(2));
        checks.due("begin(11, 99) takes the pair anew", Made.R, () -> x.begin(11, 99));
        checks.due("sign(2)", Made.SHARE_2, () -> x.sign(2));
    }

    private void enoughMembersOrMore() {
        checks.sentence("MEMBERS, T or more signers who have open pairs when it begins");
        for (int t = 1; t <= 6; t++) {
            for (int set = 1; set < 64; set++) {
                if (Integer.bitCount(set) >= t) {
                    ThresholdSeal x = new ThresholdSeal(6, t);
                    x.deal(3);
                    wholeSession(x, set, -8);
                    checks.yes("members " + set + ", T is " + t, x.holds(-8, 0));
                }
            }
        }
    }

    private void weightOfOnlyMember() {
        checks.sentence("his WEIGHT g(i) is the product of j / (j - i) over all other members j");
        for (int i = 1; i <= 6; i++) {
            int signer = i;
            ThresholdSeal x = Made.allCommitted(6, 1);
            x.begin(1 << (i - 1), 1);
            checks.due("weight(" + i + ") without others", 1, () -> x.weight(signer));
        }
    }

    private void weightBelowNought() {
        checks.sentence("his WEIGHT g(i) is the product of j / (j - i) over all other members j");
        ThresholdSeal x = Made.allCommitted(6, 2);
        x.begin(3, 1);
        checks.due("weight(1) among 1, 2", 2, () -> x.weight(1));
        checks.due("weight(2) among 1, 2, which is -1", Q - 1, () -> x.weight(2));
        x.begin(63, 1);
        checks.due("weight(1) among all", 6, () -> x.weight(1));
        checks.due("weight(2) among all", Q - 15, () -> x.weight(2));
        checks.due("weight(3) among all", 20, () -> x.weight(3));
        checks.due("weight(4) among all", Q - 15, () -> x.weight(4));
        checks.due("weight(5) among all", 6, () -> x.weight(5));
        checks.due("weight(6) among all", Q - 1, () -> x.weight(6));
        x.begin(33, 1);
        // 6 / 5 and 1 / -5.
        checks.due("5 * weight(1) among 1, 6", 6, () -> x.weight(1) * 5 % Q);
        checks.due("5 * weight(6) among 1, 6", Q - 1, () -> x.weight(6) * 5 % Q);
    }

    private void factorAtItsBounds() {
        checks.sentence("R is the product of D(j) * E(j)^f(j) over all members");
        for (long factor : new long[] {0, 1, Q - 1}) {
            ThresholdSeal x = withSecret(5);
            long d = x.commit(1, 77);
            long part = SealModel.raise(x.commitment(1, true), factor);
            long message = messageOfFactor(x, factor);
            checks.due("R of a factor of " + factor, SealModel.multiply(d, part), () -> x.begin(1, message));
            checks.due("a factor of " + factor, factor, () -> x.factor(1));
            x.sign(1);
            checks.due("its share is right", 1, () -> Checks.bit(x.relay(1, 0)));
            checks.due("its seal holds", 1, () -> Checks.bit(x.holds(message, 0)));
        }
    }

    private void challengeAtItsBounds() {
        checks.sentence("the CHALLENGE c is the digest of 5, R, Y, m");
        for (long challenge : new long[] {0, 1, Q - 1}) {
            ThresholdSeal x = withSecret(5);
            long word = wordOfSecond(1, 0);
            long r = x.commit(1, word);
            long message = messageOfChallenge(r, x.key(0), challenge);
            x.begin(1, message);
            checks.due("a challenge of " + challenge, challenge, x::challenge);
            long share = SealModel.number(SealModel.big(challenge).multiply(SealModel.big(5))
                .add(SealModel.big(Crafted.digest(2, word, 1))));
            checks.due("its share", share, () -> x.sign(1));
            checks.due("its share is right", 1, () -> Checks.bit(x.relay(1, 0)));
            checks.due("its seal holds", 1, () -> Checks.bit(x.holds(message, 0)));
        }
    }

    private void pairOfTheBeginning() {
        checks.sentence("with the pair that he had open when the session began");
        ThresholdSeal x = Made.begunAndCommittedAnew();
        checks.due("submit(1, his share) with another pair open", 1, () -> Checks.bit(x.submit(1, Made.SHARE_1)));
        checks.due("submit(2, his share) with the pair anew", 1, () -> Checks.bit(x.submit(2, Made.SHARE_2)));
        ThresholdSeal made = Made.signed();
        made.commit(1, 11);
        checks.due("relay(1, 0) with another pair open", 1, () -> Checks.bit(made.relay(1, 0)));
        checks.due("the pair that is open stays", SealModel.four(Crafted.digest(2, 11, 1)), () -> made.commitment(1, false));
        checks.due("factor(1) is that of the beginning", 625631993L, () -> made.factor(1));
    }

    private void sealOfAllMembers() {
        checks.sentence("The SEAL is R with the sum of the right shares of all members");
        ThresholdSeal x = Made.begun();
        x.submit(1, 7);
        x.submit(4, Made.SHARE_4);
        x.submit(2, Q - 1);
        x.submit(2, Made.SHARE_2);
        checks.due("a share is missing", Checks.ILLEGAL_STATE, x::seal);
        x.submit(1, Made.SHARE_1);
        checks.due("shares that were not right do not count", Made.SUM, x::seal);
    }

    private void sealHoldsAtTheBounds() {
        checks.sentence("HOLDS when R is an element, z a number, and 4^z is R * Y^c");
        ThresholdSeal x = Made.dealt();
        long y = Made.Y;
        checkAs(x, y, Q - 1, 0, true);
        checkAs(x, y, Q - 1, 1, false);
        checkAs(x, 1, 1, Made.WHOLE_SECRET, true);
        checkAs(x, 1, Q - 1, Q - Made.WHOLE_SECRET, true);
        checkAs(x, y, 0, Made.WHOLE_SECRET, true);
        for (long off : new long[] {Q, -Q, 2 * Q, 1L << 30, 1L << 31, 1L << 32, 1L << 63}) {
            checkAs(x, y, 0, Made.WHOLE_SECRET + off, false);
            checkAs(x, 1, 0, off, false);
        }
        ThresholdSeal nought = withSecret(0);
        checks.due("any seal of 4^z holds when Y is 1", 1, () -> Checks.bit(nought.check(-9, 4, 1)));
        checks.due("but no other z", 0, () -> Checks.bit(nought.check(-9, 4, 2)));
    }
}
