import java.util.Arrays;
import java.util.List;

/**
 * Each promise of the document in turn: ordinary inputs, the edges that are named, wrong inputs.
 * Numbers that stand here as such are those of ../shared/tests; the others are reckoned by the
 * formulas of the document with BigInteger (SealModel's static functions).
 */
public final class PromisesTest {
    private static final long Q = SealModel.Q;
    private static final long P = SealModel.P;
    private static final int[] NO_SIGNERS = {0, -1, 6, 7, 33, 34, Integer.MIN_VALUE, Integer.MAX_VALUE};
    /** For 5 signers: one too many, negative ones, and those who are there with one who is not. */
    private static final int[] NO_SETS = {32, 39, 63, 64, -1, -25, 7 | 1 << 31, Integer.MIN_VALUE, Integer.MAX_VALUE};
    private static final long[] NO_NUMBERS = {-1, Q, Q + 1, -Q, Long.MIN_VALUE, Long.MAX_VALUE, 1L << 32};

    private final Checks checks = new Checks();

    public static void main(String[] args) {
        PromisesTest test = new PromisesTest();
        test.promise1NewObject();
        test.promise2Deal();
        test.promise2DealAnew();
        test.promise3Commit();
        test.promise4Begin();
        test.promise4BeginAnew();
        test.promise4BeginRefused();
        test.promise5Sign();
        test.promise5SignRefused();
        test.promise6Submit();
        test.promise6SubmitRefused();
        test.promise7Relay();
        test.promise7RelayRefused();
        test.promise8Seal();
        test.promise9Check();
        test.promise10Holds();
        test.promise11Recover();
        test.promise12Key();
        test.promise13Secret();
        test.promise14Commitment();
        test.promise15Factor();
        test.promise16Weight();
        test.promise17Challenge();
        test.promise18Members();
        test.promise19Taken();
        test.promise20Blamed();
        test.limitOf512Calls();
        test.checks.end("PromisesTest");
    }

    // ---- objects to begin with: 5 signers, of whom 3 are enough

    private static ThresholdSeal fresh() {
        return new ThresholdSeal(5, 3);
    }

    private static ThresholdSeal dealt() {
        ThresholdSeal x = fresh();
        x.deal(12345);
        return x;
    }

    /** Signers 1, 2 and 4 have open pairs. */
    private static ThresholdSeal committed() {
        ThresholdSeal x = dealt();
        x.commit(1, 10);
        x.commit(2, 20);
        x.commit(4, 30);
        return x;
    }

    /** Signers 1, 2 and 4 are members of a session with the message 99. */
    private static ThresholdSeal begun() {
        ThresholdSeal x = committed();
        x.begin(11, 99);
        return x;
    }

    private static ThresholdSeal signed() {
        ThresholdSeal x = begun();
        x.sign(1);
        x.sign(2);
        x.sign(4);
        return x;
    }

    private static ThresholdSeal sealed() {
        ThresholdSeal x = signed();
        x.relay(1, 0);
        x.relay(2, 0);
        x.relay(4, 0);
        return x;
    }

    private static final long R = 870376903L;
    private static final long Y = 598674767L;
    private static final long SHARE_1 = 578878278L;
    private static final long SHARE_2 = 738970728L;
    private static final long SHARE_4 = 352979197L;
    private static final long SUM = 597086414L;

    // ---- the promises

    private void promise1NewObject() {
        int[][] cases = {
            {5, 3, 5, 3}, {1, 1, 1, 1}, {6, 6, 6, 6}, {0, 0, 1, 1}, {7, 7, 6, 6}, {9, 0, 6, 1},
            {-3, 7, 1, 1}, {3, 4, 3, 3}, {3, -1, 3, 1}, {2, 1, 2, 1},
            {Integer.MIN_VALUE, Integer.MIN_VALUE, 1, 1}, {Integer.MAX_VALUE, Integer.MAX_VALUE, 6, 6},
        };
        for (int[] c : cases) {
            ThresholdSeal x = new ThresholdSeal(c[0], c[1]);
            String name = "new ThresholdSeal(" + c[0] + ", " + c[1] + ")";
            nothingIsDealt(name, x);
            x.deal(1);
            checks.yes(name + " has the last signer", x.secret(c[2]) >= 0);
            checks.due(name + " has no signer more", -1, () -> x.secret(c[2] + 1));
            int enough = (1 << c[3]) - 1;
            checks.due(name + " has enough", SealModel.digest(1, 1, 0), () -> x.recover(enough));
            checks.due(name + " has too few", Checks.ILLEGAL_ARGUMENT, () -> x.recover(enough >> 1));
        }
    }

    private void nothingIsDealt(String name, ThresholdSeal x) {
        for (int i = -1; i <= 7; i++) {
            int signer = i;
            checks.due(name + " key(" + i + ")", -1, () -> x.key(signer));
            checks.due(name + " secret(" + i + ")", -1, () -> x.secret(signer));
            checks.due(name + " commitment(" + i + ", false)", -1, () -> x.commitment(signer, false));
            checks.due(name + " commitment(" + i + ", true)", -1, () -> x.commitment(signer, true));
        }
        noSession(name, x);
    }

    private void noSession(String name, ThresholdSeal x) {
        for (int i = -1; i <= 7; i++) {
            int signer = i;
            checks.due(name + " factor(" + i + ")", -1, () -> x.factor(signer));
            checks.due(name + " weight(" + i + ")", -1, () -> x.weight(signer));
        }
        checks.due(name + " challenge()", -1, x::challenge);
        checks.due(name + " members()", 0, x::members);
        checks.due(name + " taken()", 0, x::taken);
        checks.due(name + " blamed()", 0, x::blamed);
        checks.due(name + " seal()", Checks.ILLEGAL_STATE, x::seal);
        checks.due(name + " holds(0, 0)", Checks.ILLEGAL_STATE, () -> Checks.bit(x.holds(0, 0)));
        checks.due(name + " sign(1)", Checks.ILLEGAL_STATE, () -> x.sign(1));
        checks.due(name + " submit(1, 0)", Checks.ILLEGAL_STATE, () -> Checks.bit(x.submit(1, 0)));
        checks.due(name + " relay(1, 0)", Checks.ILLEGAL_STATE, () -> Checks.bit(x.relay(1, 0)));
    }

    private void promise2Deal() {
        checks.due("deal(12345)", Y, () -> fresh().deal(12345));
        checks.due("deal(0) with one signer", 1505512052L, () -> new ThresholdSeal(1, 1).deal(0));
        checks.due("deal(777) with six signers", 1386522784L, () -> new ThresholdSeal(9, 0).deal(777));
        for (long word : new long[] {0, 1, -1, Long.MIN_VALUE, Long.MAX_VALUE, Q}) {
            ThresholdSeal x = new ThresholdSeal(6, 6);
            checks.due("deal(" + word + ")", SealModel.four(SealModel.digest(1, word, 0)), () -> x.deal(word));
            SealModel model = new SealModel(6, 6);
            model.deal(word);
            for (int i = 1; i <= 6; i++) {
                int signer = i;
                checks.due("secret(" + i + ") of deal(" + word + ")", model.secretOf(i), () -> x.secret(signer));
            }
        }
    }

    private void promise2DealAnew() {
        ThresholdSeal x = signed();
        x.relay(1, 0);
        x.submit(2, 5);
        x.commit(3, 7);
        checks.due("deal(12345) again", Y, () -> x.deal(12345));
        for (int i = 1; i <= 5; i++) {
            int signer = i;
            checks.due("commitment(" + i + ", false) when dealt again", -1, () -> x.commitment(signer, false));
            checks.due("commitment(" + i + ", true) when dealt again", -1, () -> x.commitment(signer, true));
        }
        noSession("dealt again", x);
        checks.due("begin without pairs when dealt again", Checks.ILLEGAL_STATE, () -> x.begin(7, 99));
        checks.due("deal(1) after deal(12345)", SealModel.four(SealModel.digest(1, 1, 0)), () -> x.deal(1));
        checks.due("key(0) is the new one", SealModel.four(SealModel.digest(1, 1, 0)), () -> x.key(0));
    }

    private void promise3Commit() {
        ThresholdSeal x = dealt();
        checks.due("commit(1, 10)", 1896529641L, () -> x.commit(1, 10));
        checks.due("commit(2, 20)", 1879898348L, () -> x.commit(2, 20));
        for (long word : new long[] {0, -1, Long.MIN_VALUE, Long.MAX_VALUE}) {
            long d = SealModel.four(SealModel.digest(2, word, 5));
            checks.due("commit(5, " + word + ")", d, () -> x.commit(5, word));
            checks.due("D of commit(5, " + word + ")", d, () -> x.commitment(5, false));
            long e = SealModel.four(SealModel.digest(3, word, 5));
            checks.due("E of commit(5, " + word + ")", e, () -> x.commitment(5, true));
        }
        checks.due("the pair of another stands", 1896529641L, () -> x.commitment(1, false));
        for (int i : NO_SIGNERS) {
            checks.badArgument("commit(" + i + ", 1)", PromisesTest::committed, y -> y.commit(i, 1));
            checks.badArgument("commit(" + i + ", 1), not dealt", PromisesTest::fresh, y -> y.commit(i, 1));
        }
        for (int i = 1; i <= 5; i++) {
            int signer = i;
            checks.badState("commit(" + i + ", 1), not dealt", PromisesTest::fresh, y -> y.commit(signer, 1));
        }
    }

    private void promise4Begin() {
        ThresholdSeal x = committed();
        checks.due("begin(11, 99)", R, () -> x.begin(11, 99));
        ThresholdSeal one = new ThresholdSeal(1, 1);
        one.deal(0);
        one.commit(1, 0);
        checks.due("begin(1, 0)", 945377155L, () -> one.begin(1, 0));
        checks.due("begin leaves the pair open", 1697891464L, () -> one.commitment(1, false));
        for (long message : new long[] {0, -1, Long.MIN_VALUE, Long.MAX_VALUE}) {
            SealModel model = new SealModel(6, 2);
            ThresholdSeal all = new ThresholdSeal(6, 2);
            checks.due("deal(5)", model.deal(5), () -> all.deal(5));
            for (int i = 1; i <= 6; i++) {
                int signer = i;
                checks.due("commit(" + i + ", 3)", model.commit(i, 3), () -> all.commit(signer, 3));
            }
            for (int set : new int[] {63, 3, 48, 33, 42}) {
                checks.due("begin(" + set + ", " + message + ")", model.begin(set, message), () -> all.begin(set, message));
            }
        }
    }

    private void promise4BeginAnew() {
        ThresholdSeal x = begun();
        x.sign(1);
        x.relay(1, 0);
        x.submit(2, 5);
        x.commit(1, 40);
        x.commit(5, 50);
        x.begin(1 | 2 | 16, 7);
        checks.due("members() of the new session", 19, x::members);
        checks.due("taken() of the new session", 0, x::taken);
        checks.due("blamed() of the new session", 0, x::blamed);
        checks.due("factor(4), no member any more", -1, () -> x.factor(4));
        checks.due("relay(1, 0), a share of the old session", Checks.ILLEGAL_STATE, () -> Checks.bit(x.relay(1, 0)));
        checks.yes("sign(1) with the new pair", x.sign(1) >= 0);
        checks.yes("sign(2) with the pair of both sessions", x.sign(2) >= 0);
        checks.yes("sign(5)", x.sign(5) >= 0);
        checks.yes("relay(1, 0)", x.relay(1, 0));
        checks.yes("relay(2, 0)", x.relay(2, 0));
        checks.yes("relay(5, 0)", x.relay(5, 0));
        checks.yes("holds(7, 0)", x.holds(7, 0));
        checks.due("taken() when all are", 19, x::taken);
    }

    private void promise4BeginRefused() {
        for (int set : NO_SETS) {
            checks.badArgument("begin(" + set + ", 1)", PromisesTest::begun, x -> x.begin(set, 1));
            checks.badArgument("begin(" + set + ", 1), not dealt", PromisesTest::fresh, x -> x.begin(set, 1));
        }
        for (int set : new int[] {0, 1, 2, 3, 10, 24}) {
            checks.badArgument("begin(" + set + ", 1), too few", PromisesTest::begun, x -> x.begin(set, 1));
            checks.badArgument("begin(" + set + ", 1), too few, not dealt", PromisesTest::fresh, x -> x.begin(set, 1));
        }
        checks.badState("begin(7, 1), not dealt", PromisesTest::fresh, x -> x.begin(7, 1));
        for (int set : new int[] {7, 15, 27, 31, 28}) {
            checks.badState("begin(" + set + ", 1), a pair is missing", PromisesTest::begun, x -> x.begin(set, 1));
        }
        checks.badState("begin(11, 99), pairs are gone", PromisesTest::signed, x -> x.begin(11, 99));
        ThresholdSeal x = begun();
        Checks.outcome(() -> x.begin(31, 1));
        checks.due("sign(1) after a begin that threw", SHARE_1, () -> x.sign(1));
        Checks.outcome(() -> x.begin(11, 1));
        checks.yes("relay(1, 0) after a begin that threw", x.relay(1, 0));
    }

    private void promise5Sign() {
        ThresholdSeal x = begun();
        checks.due("sign(1)", SHARE_1, () -> x.sign(1));
        checks.due("D of 1 is gone", -1, () -> x.commitment(1, false));
        checks.due("E of 1 is gone", -1, () -> x.commitment(1, true));
        checks.due("D of 2 stands", 1879898348L, () -> x.commitment(2, false));
        checks.due("sign(2)", SHARE_2, () -> x.sign(2));
        checks.due("sign(4)", SHARE_4, () -> x.sign(4));
        checks.due("sign takes no share", 0, x::taken);
        checks.due("sign blames nobody", 0, x::blamed);
        ThresholdSeal told = begun();
        checks.yes("submit(1, his share) before he made it", told.submit(1, SHARE_1));
        checks.due("sign(1) when his share is taken", SHARE_1, () -> told.sign(1));
    }

    private void promise5SignRefused() {
        for (int i : NO_SIGNERS) {
            checks.badArgument("sign(" + i + ")", PromisesTest::begun, x -> x.sign(i));
            checks.badArgument("sign(" + i + "), not dealt", PromisesTest::fresh, x -> x.sign(i));
        }
        checks.badState("sign(1), not dealt", PromisesTest::fresh, x -> x.sign(1));
        checks.badState("sign(1), no session", PromisesTest::committed, x -> x.sign(1));
        checks.badState("sign(3), no member", PromisesTest::begun, x -> x.sign(3));
        checks.badState("sign(3), no member but a pair", PromisesTest::begunWithPairOf3, x -> x.sign(3));
        checks.badState("sign(1), a member of the session before alone", PromisesTest::begunAnewWithout1, x -> x.sign(1));
        checks.badState("sign(1) again", PromisesTest::signed, x -> x.sign(1));
        checks.badState("sign(1) with another pair", PromisesTest::begunAndCommittedAnew, x -> x.sign(1));
        checks.badState("sign(2) with the same pair anew", PromisesTest::begunAndCommittedAnew, x -> x.sign(2));
        checks.due("sign(4) beside them", SHARE_4, () -> begunAndCommittedAnew().sign(4));
        checks.badState("sign(1), signed and committed anew", PromisesTest::signedAndCommittedAnew, x -> x.sign(1));
    }

    private static ThresholdSeal begunWithPairOf3() {
        ThresholdSeal x = begun();
        x.commit(3, 1);
        return x;
    }

    /** Signer 1 still has the pair that he had in the first session. */
    private static ThresholdSeal begunAnewWithout1() {
        ThresholdSeal x = begunWithPairOf3();
        x.begin(14, 99);
        return x;
    }

    private static ThresholdSeal begunAndCommittedAnew() {
        ThresholdSeal x = begun();
        x.commit(1, 11);
        x.commit(2, 20);
        return x;
    }

    private static ThresholdSeal signedAndCommittedAnew() {
        ThresholdSeal x = signed();
        x.commit(1, 10);
        return x;
    }

    private void promise6Submit() {
        ThresholdSeal x = begun();
        checks.yes("submit(1, 0) is not right", !x.submit(1, 0));
        checks.yes("submit(1, Q - 1) is not right", !x.submit(1, Q - 1));
        checks.yes("submit(1, his share + 1) is not right", !x.submit(1, SHARE_1 + 1));
        checks.yes("submit(1, the share of 2) is not right", !x.submit(1, SHARE_2));
        checks.due("nothing is taken", 0, x::taken);
        checks.yes("submit(1, his share)", x.submit(1, SHARE_1));
        checks.due("it is taken", 1, x::taken);
        ThresholdSeal anew = begunAndCommittedAnew();
        checks.yes("submit(1, his share) with another pair open", anew.submit(1, SHARE_1));
        checks.yes("submit(2, his share) with the same pair anew", anew.submit(2, SHARE_2));
    }

    private void promise6SubmitRefused() {
        for (int i : NO_SIGNERS) {
            checks.badArgument("submit(" + i + ", 0)", PromisesTest::begun, x -> Checks.bit(x.submit(i, 0)));
            checks.badArgument("submit(" + i + ", 0), not dealt", PromisesTest::fresh, x -> Checks.bit(x.submit(i, 0)));
        }
        for (long z : NO_NUMBERS) {
            checks.badArgument("submit(1, " + z + ")", PromisesTest::begun, x -> Checks.bit(x.submit(1, z)));
            checks.badArgument("submit(3, " + z + "), no member", PromisesTest::begun, x -> Checks.bit(x.submit(3, z)));
            checks.badArgument("submit(1, " + z + "), taken", PromisesTest::sealed, x -> Checks.bit(x.submit(1, z)));
        }
        checks.badArgument("submit(1, his share + Q)", PromisesTest::begun, x -> Checks.bit(x.submit(1, SHARE_1 + Q)));
        checks.badArgument("submit(1, his share - Q)", PromisesTest::begun, x -> Checks.bit(x.submit(1, SHARE_1 - Q)));
        checks.badState("submit(1, 0), not dealt", PromisesTest::fresh, x -> Checks.bit(x.submit(1, 0)));
        checks.badState("submit(1, 0), no session", PromisesTest::committed, x -> Checks.bit(x.submit(1, 0)));
        checks.badState("submit(3, 0), no member", PromisesTest::begun, x -> Checks.bit(x.submit(3, 0)));
        checks.badState("submit(1, right), taken", PromisesTest::sealed, x -> Checks.bit(x.submit(1, SHARE_1)));
        checks.badState("submit(1, wrong), taken", PromisesTest::sealed, x -> Checks.bit(x.submit(1, 0)));
    }

    private void promise7Relay() {
        ThresholdSeal x = signed();
        checks.yes("relay(1, 1) is not right", !x.relay(1, 1));
        checks.yes("relay(1, Q - 1) is not right", !x.relay(1, Q - 1));
        checks.due("nothing is taken", 0, x::taken);
        checks.yes("relay(1, 0)", x.relay(1, 0));
        checks.due("it is taken", 1, x::taken);
        x.commit(2, 5);
        checks.yes("relay(2, 0) with another pair open", x.relay(2, 0));
        checks.due("both are taken", 3, x::taken);
    }

    private void promise7RelayRefused() {
        for (int i : NO_SIGNERS) {
            checks.badArgument("relay(" + i + ", 0)", PromisesTest::signed, x -> Checks.bit(x.relay(i, 0)));
            checks.badArgument("relay(" + i + ", 0), not dealt", PromisesTest::fresh, x -> Checks.bit(x.relay(i, 0)));
        }
        for (long more : NO_NUMBERS) {
            checks.badArgument("relay(1, " + more + ")", PromisesTest::signed, x -> Checks.bit(x.relay(1, more)));
            checks.badArgument("relay(1, " + more + "), not made", PromisesTest::begun, x -> Checks.bit(x.relay(1, more)));
            checks.badArgument("relay(3, " + more + "), no member", PromisesTest::begun, x -> Checks.bit(x.relay(3, more)));
            checks.badArgument("relay(1, " + more + "), taken", PromisesTest::sealed, x -> Checks.bit(x.relay(1, more)));
        }
        checks.badState("relay(1, 0), not dealt", PromisesTest::fresh, x -> Checks.bit(x.relay(1, 0)));
        checks.badState("relay(1, 0), no session", PromisesTest::committed, x -> Checks.bit(x.relay(1, 0)));
        checks.badState("relay(3, 0), no member", PromisesTest::signed, x -> Checks.bit(x.relay(3, 0)));
        checks.badState("relay(1, 0), not made", PromisesTest::begun, x -> Checks.bit(x.relay(1, 0)));
        checks.badState("relay(1, 0), taken", PromisesTest::sealed, x -> Checks.bit(x.relay(1, 0)));
        checks.badState("relay(1, 1), taken", PromisesTest::sealed, x -> Checks.bit(x.relay(1, 1)));
        checks.badState("relay(1, 0), made in the session before", PromisesTest::signedThenBegunAnew,
            x -> Checks.bit(x.relay(1, 0)));
    }

    private static ThresholdSeal signedThenBegunAnew() {
        ThresholdSeal x = committed();
        x.begin(11, 99);
        x.sign(1);
        x.commit(1, 10);
        x.begin(11, 99);
        return x;
    }

    private void promise8Seal() {
        ThresholdSeal x = signed();
        x.relay(4, 0);
        checks.due("seal(), two are missing", Checks.ILLEGAL_STATE, x::seal);
        x.submit(1, SHARE_1);
        checks.due("seal(), one is missing", Checks.ILLEGAL_STATE, x::seal);
        x.relay(2, 1);
        checks.due("seal(), one is not right", Checks.ILLEGAL_STATE, x::seal);
        x.relay(2, 0);
        checks.due("seal()", SUM, x::seal);
        checks.due("seal() again", SUM, x::seal);
        x.commit(1, 3);
        checks.due("seal() when a member has committed anew", SUM, x::seal);
        checks.due("shares and sum", (SHARE_1 + SHARE_2 + SHARE_4) % Q, x::seal);
        x.commit(2, 3);
        x.commit(4, 3);
        x.begin(11, 99);
        checks.due("seal() of a new session", Checks.ILLEGAL_STATE, x::seal);
        checks.badState("seal(), not dealt", PromisesTest::fresh, ThresholdSeal::seal);
        checks.badState("seal(), no session", PromisesTest::committed, ThresholdSeal::seal);
        checks.badState("seal(), no share", PromisesTest::begun, ThresholdSeal::seal);
        checks.badState("seal(), shares made but not told", PromisesTest::signed, ThresholdSeal::seal);
    }

    private void promise9Check() {
        ThresholdSeal x = dealt();
        checks.yes("check(99, R, sum)", x.check(99, R, SUM));
        checks.yes("check(98, R, sum), another message", !x.check(98, R, SUM));
        checks.yes("check(99, R + 1, sum)", !x.check(99, R + 1, SUM));
        checks.yes("check(99, R, sum + 1)", !x.check(99, R, SUM + 1));
        checks.yes("check(99, R, sum + Q), no number", !x.check(99, R, SUM + Q));
        checks.yes("check(99, R, sum - Q), no number", !x.check(99, R, SUM - Q));
        checks.yes("check(99, R, sum + 2^30), no number", !x.check(99, R, SUM + (1L << 30)));
        checks.yes("check(99, R, sum + 2^32), no number", !x.check(99, R, SUM + (1L << 32)));
        checks.yes("check(99, R, sum + the least long), no number", !x.check(99, R, SUM + Long.MIN_VALUE));
        checks.yes("check(99, R + P, sum), no element", !x.check(99, R + P, SUM));
        checks.yes("check(99, R - P, sum), no element", !x.check(99, R - P, SUM));
        for (long r : new long[] {0, P, -1, Long.MIN_VALUE, Long.MAX_VALUE}) {
            checks.yes("check(99, " + r + ", 0), no element", !x.check(99, r, 0));
        }
        // Anybody who knows the secret makes a seal of any R = 4^k: z is k + c * a(0).
        for (long k : new long[] {0, 1, Q - 1, 12345}) {
            long r = SealModel.four(k);
            long c = SealModel.digest(5, r, Y, -7);
            long z = SealModel.number(SealModel.big(c).multiply(SealModel.big(948448387L)).add(SealModel.big(k)));
            checks.yes("check(-7, 4^" + k + ", z)", x.check(-7, r, z));
            checks.yes("check(-7, 4^" + k + ", z - 1)", !x.check(-7, r, z - 1));
            checks.yes("check(-7, 4^" + k + ", z + Q), no number", !x.check(-7, r, z + Q));
            checks.yes("check(-7, 4^" + k + " + P, z), no element", !x.check(-7, r + P, z));
            checks.yes("check(-7, 4^" + k + ", z), nothing is dealt", !fresh().check(-7, r, z));
            checks.yes("check(-7, 4^" + k + ", z), another deal", !otherwiseDealt().check(-7, r, z));
        }
        checks.yes("check(1, 1, 0), nothing is dealt", !fresh().check(1, 1, 0));
        noElementHolds(x);
        long[] before = Checks.seen(begun());
        ThresholdSeal same = begun();
        same.check(99, R, SUM);
        checks.yes("check changes nothing", Arrays.equals(before, Checks.seen(same)));
    }

    /** The R and z for which the sums would come out modulo P and Q although they are too large. */
    private void noElementHolds(ThresholdSeal x) {
        for (long k = 1; k <= 20; k++) {
            long r = SealModel.four(k) + P;
            long c = SealModel.digest(5, r, Y, 3);
            long z = SealModel.number(SealModel.big(c).multiply(SealModel.big(948448387L)).add(SealModel.big(k)));
            checks.yes("check(3, " + r + ", " + z + "), no element", !x.check(3, r, z));
        }
    }

    private static ThresholdSeal otherwiseDealt() {
        ThresholdSeal x = fresh();
        x.deal(54321);
        return x;
    }

    private void promise10Holds() {
        ThresholdSeal x = sealed();
        checks.yes("holds(99, 0)", x.holds(99, 0));
        checks.yes("holds(99, 1)", !x.holds(99, 1));
        checks.yes("holds(99, Q - 1)", !x.holds(99, Q - 1));
        checks.yes("holds(98, 0)", !x.holds(98, 0));
        checks.yes("holds(-99, 0)", !x.holds(-99, 0));
        x.commit(1, 1);
        checks.yes("holds(99, 0) when a member has committed anew", x.holds(99, 0));
        for (long more : NO_NUMBERS) {
            checks.badArgument("holds(99, " + more + ")", PromisesTest::sealed, y -> Checks.bit(y.holds(99, more)));
            checks.badArgument("holds(99, " + more + "), not sealed", PromisesTest::signed, y -> Checks.bit(y.holds(99, more)));
            checks.badArgument("holds(99, " + more + "), not dealt", PromisesTest::fresh, y -> Checks.bit(y.holds(99, more)));
        }
        checks.badState("holds(99, 0), not dealt", PromisesTest::fresh, y -> Checks.bit(y.holds(99, 0)));
        checks.badState("holds(99, 0), no session", PromisesTest::committed, y -> Checks.bit(y.holds(99, 0)));
        checks.badState("holds(99, 0), no share is taken", PromisesTest::signed, y -> Checks.bit(y.holds(99, 0)));
        ThresholdSeal two = signed();
        two.relay(1, 0);
        two.relay(2, 0);
        checks.due("holds(99, 0), a share is missing", Checks.ILLEGAL_STATE, () -> Checks.bit(two.holds(99, 0)));
    }

    private void promise11Recover() {
        ThresholdSeal x = dealt();
        for (int set = 0; set < 32; set++) {
            int members = set;
            long want = Integer.bitCount(set) < 3 ? Checks.ILLEGAL_ARGUMENT : 948448387L;
            checks.due("recover(" + set + ")", want, () -> x.recover(members));
        }
        for (int set : NO_SETS) {
            checks.badArgument("recover(" + set + ")", PromisesTest::begun, y -> y.recover(set));
            checks.badArgument("recover(" + set + "), not dealt", PromisesTest::fresh, y -> y.recover(set));
        }
        checks.badArgument("recover(3), too few, not dealt", PromisesTest::fresh, y -> y.recover(3));
        checks.badState("recover(7), not dealt", PromisesTest::fresh, y -> y.recover(7));
        long[] before = Checks.seen(begun());
        ThresholdSeal same = begun();
        same.recover(28);
        checks.yes("recover changes nothing", Arrays.equals(before, Checks.seen(same)));
    }

    private void promise12Key() {
        ThresholdSeal x = dealt();
        checks.due("key(0)", Y, () -> x.key(0));
        checks.due("key(1)", 680258800L, () -> x.key(1));
        for (int i = 1; i <= 5; i++) {
            int signer = i;
            checks.due("key(" + i + ")", SealModel.four(x.secret(i)), () -> x.key(signer));
            checks.due("key(" + i + "), not dealt", -1, () -> fresh().key(signer));
        }
        for (int i : NO_SIGNERS) {
            if (i != 0) {
                checks.due("key(" + i + ")", -1, () -> x.key(i));
            }
        }
        checks.due("key(0), not dealt", -1, () -> fresh().key(0));
    }

    private void promise13Secret() {
        ThresholdSeal x = dealt();
        checks.due("secret(2)", 707100215L, () -> x.secret(2));
        long[] a = {SealModel.digest(1, 12345, 0), SealModel.digest(1, 12345, 1), SealModel.digest(1, 12345, 2)};
        for (int i = 1; i <= 5; i++) {
            int signer = i;
            checks.due("secret(" + i + ")", (a[0] + a[1] * i + a[2] * i * i) % Q, () -> x.secret(signer));
            checks.due("secret(" + i + "), not dealt", -1, () -> fresh().secret(signer));
        }
        for (int i : NO_SIGNERS) {
            checks.due("secret(" + i + ")", -1, () -> x.secret(i));
        }
    }

    private void promise14Commitment() {
        ThresholdSeal x = committed();
        checks.due("commitment(1, false)", 1896529641L, () -> x.commitment(1, false));
        checks.due("commitment(1, true)", 1232658980L, () -> x.commitment(1, true));
        checks.due("commitment(3, false), none", -1, () -> x.commitment(3, false));
        checks.due("commitment(3, true), none", -1, () -> x.commitment(3, true));
        for (int i : NO_SIGNERS) {
            checks.due("commitment(" + i + ", false)", -1, () -> x.commitment(i, false));
            checks.due("commitment(" + i + ", true)", -1, () -> x.commitment(i, true));
        }
        x.begin(11, 99);
        x.commit(1, 77);
        checks.due("D of the pair that is open now", SealModel.four(SealModel.digest(2, 77, 1)), () -> x.commitment(1, false));
        checks.due("E of the pair that is open now", SealModel.four(SealModel.digest(3, 77, 1)), () -> x.commitment(1, true));
        x.sign(2);
        checks.due("D of a pair that is gone", -1, () -> x.commitment(2, false));
        checks.due("E of a pair that is gone", -1, () -> x.commitment(2, true));
    }

    private void promise15Factor() {
        ThresholdSeal x = begun();
        checks.due("factor(1)", 625631993L, () -> x.factor(1));
        long[] told = {1, 10, 2, 20, 4, 30};
        long[] longs = new long[13];
        longs[0] = 4;
        longs[1] = Y;
        longs[2] = 99;
        for (int k = 0; k < 3; k++) {
            long j = told[2 * k];
            longs[4 + 3 * k] = j;
            longs[5 + 3 * k] = SealModel.four(SealModel.digest(2, told[2 * k + 1], j));
            longs[6 + 3 * k] = SealModel.four(SealModel.digest(3, told[2 * k + 1], j));
        }
        for (int i : new int[] {1, 2, 4}) {
            longs[3] = i;
            long want = SealModel.digest(longs);
            checks.due("factor(" + i + ")", want, () -> x.factor(i));
            checks.due("factor(" + i + ") when committed anew", want, () -> begunAndCommittedAnew().factor(i));
            checks.due("factor(" + i + ") when sealed", want, () -> sealed().factor(i));
            checks.due("factor(" + i + "), no session", -1, () -> committed().factor(i));
        }
        for (int i : new int[] {3, 5}) {
            checks.due("factor(" + i + "), no member", -1, () -> x.factor(i));
        }
        for (int i : NO_SIGNERS) {
            checks.due("factor(" + i + ")", -1, () -> x.factor(i));
        }
    }

    private void promise16Weight() {
        ThresholdSeal x = begun();
        checks.due("weight(1)", 715827862L, () -> x.weight(1));
        checks.due("weight(2)", Q - 2, () -> x.weight(2));
        checks.due("weight(3), no member", -1, () -> x.weight(3));
        for (int i : NO_SIGNERS) {
            checks.due("weight(" + i + ")", -1, () -> x.weight(i));
        }
        checks.due("weight(1), no session", -1, () -> committed().weight(1));
        for (int set = 1; set < 64; set++) {
            ThresholdSeal all = new ThresholdSeal(6, 1);
            all.deal(1);
            List<Integer> list = SealModel.listed(set);
            for (int i : list) {
                all.commit(i, 1);
            }
            all.begin(set, 1);
            for (int i = 1; i <= 6; i++) {
                int signer = i;
                long want = list.contains(i) ? SealModel.weightAmong(list, i) : -1;
                checks.due("weight(" + i + ") among " + set, want, () -> all.weight(signer));
            }
        }
    }

    private void promise17Challenge() {
        checks.due("challenge()", 175958055L, () -> begun().challenge());
        checks.due("challenge() is the digest", SealModel.digest(5, R, Y, 99), () -> begun().challenge());
        checks.due("challenge() when sealed", 175958055L, () -> sealed().challenge());
        checks.due("challenge(), no session", -1, () -> committed().challenge());
        checks.due("challenge(), not dealt", -1, () -> fresh().challenge());
        ThresholdSeal x = begun();
        long r = x.begin(11, -3);
        checks.due("challenge() of the next session", SealModel.digest(5, r, Y, -3), x::challenge);
        x.deal(12345);
        checks.due("challenge() when dealt again", -1, x::challenge);
    }

    private void promise18Members() {
        checks.due("members(), not dealt", 0, () -> fresh().members());
        checks.due("members(), no session", 0, () -> committed().members());
        checks.due("members()", 11, () -> begun().members());
        checks.due("members() when sealed", 11, () -> sealed().members());
        ThresholdSeal x = begunWithPairOf3();
        x.begin(15, 1);
        checks.due("members() of the next session", 15, x::members);
        x.begin(14, 1);
        checks.due("members() of the third session", 14, x::members);
        x.deal(1);
        checks.due("members() when dealt again", 0, x::members);
    }

    private void promise19Taken() {
        ThresholdSeal x = begun();
        checks.due("taken(), none", 0, x::taken);
        x.submit(4, SHARE_4);
        checks.due("taken(), 4", 8, x::taken);
        x.submit(1, 0);
        checks.due("taken(), a wrong share told", 8, x::taken);
        x.sign(2);
        checks.due("taken(), a share made", 8, x::taken);
        x.relay(2, 0);
        checks.due("taken(), 2 and 4", 10, x::taken);
        x.submit(1, SHARE_1);
        checks.due("taken(), all", 11, x::taken);
        checks.due("taken(), not dealt", 0, () -> fresh().taken());
        checks.due("taken(), no session", 0, () -> committed().taken());
        x.deal(1);
        checks.due("taken() when dealt again", 0, x::taken);
    }

    private void promise20Blamed() {
        ThresholdSeal x = begun();
        checks.due("blamed(), none", 0, x::blamed);
        x.submit(4, SHARE_1);
        checks.due("blamed(), 4 by submit", 8, x::blamed);
        x.sign(2);
        x.relay(2, 1);
        checks.due("blamed(), 2 by relay", 10, x::blamed);
        x.relay(2, 0);
        x.submit(4, SHARE_4);
        checks.due("blamed(), right shares told since", 10, x::blamed);
        x.submit(1, SHARE_1);
        checks.due("blamed(), 1 told a right share alone", 10, x::blamed);
        Checks.outcome(() -> Checks.bit(x.submit(1, 0)));
        Checks.outcome(() -> Checks.bit(x.submit(3, 0)));
        Checks.outcome(() -> Checks.bit(x.submit(1, -1)));
        checks.due("blamed(), what was refused does not count", 10, x::blamed);
        x.commit(2, 1);
        x.begin(11, 99);
        checks.due("blamed() of the next session", 0, x::blamed);
        x.submit(1, 0);
        checks.due("blamed() again", 1, x::blamed);
        x.deal(1);
        checks.due("blamed() when dealt again", 0, x::blamed);
        checks.due("blamed(), not dealt", 0, () -> fresh().blamed());
    }

    /** The dearest run: sessions of all six, one after another, up to the last call. */
    private void limitOf512Calls() {
        ThresholdSeal x = new ThresholdSeal(6, 6);
        x.deal(1);
        int calls = 1;
        for (int session = 0; calls + 20 <= 512; session++) {
            for (int i = 1; i <= 6; i++) {
                x.commit(i, session);
            }
            x.begin(63, session);
            for (int i = 1; i <= 6; i++) {
                x.sign(i);
                checks.yes("relay(" + i + ", 0) in session " + session, x.relay(i, 0));
            }
            checks.yes("holds(" + session + ", 0)", x.holds(session, 0));
            calls += 20;
        }
    }
}
