import java.util.Arrays;
import java.util.List;

/**
 * Each promise of the document in turn, with ordinary inputs; bounds stand in TermsTest and
 * EdgesTest, refused calls in RefusalsTest. Numbers that stand here as such are those of
 * ../shared/tests; the others are reckoned by the formulas of the document with BigInteger
 * (SealModel's static functions).
 */
public final class PromisesTest {
    private static final long Q = SealModel.Q;

    private final Checks checks = new Checks();

    public static void main(String[] args) {
        PromisesTest test = new PromisesTest();
        test.promise1NewObject();
        test.promise2Deal();
        test.promise2DealAnew();
        test.promise3Commit();
        test.promise4Begin();
        test.promise5Sign();
        test.promise6Submit();
        test.promise7Relay();
        test.promise8Seal();
        test.promise9Check();
        test.promise10Holds();
        test.promise11Recover();
        test.promise12Key();
        test.promise13Secret();
        test.promise14Commitment();
        test.promise15Factor();
        test.promise16Weight();
        test.promise17Challenge();
        test.promise18Members();
        test.promise19Taken();
        test.promise20Blamed();
        test.checks.end("PromisesTest");
    }

    private void promise1NewObject() {
        for (int n = 1; n <= 6; n++) {
            for (int t = 1; t <= n; t++) {
                SealModel model = new SealModel(n, t);
                ThresholdSeal x = new ThresholdSeal(n, t);
                String name = "new ThresholdSeal(" + n + ", " + t + ")";
                checks.due(name + " has nothing dealt", -1, () -> x.key(0));
                checks.due(name + " deals", model.deal(4), () -> x.deal(4));
                int last = n;
                checks.due(name + " has its last signer", model.secretOf(n), () -> x.secret(last));
                checks.due(name + " has no signer more", -1, () -> x.secret(last + 1));
                int members = (1 << t) - 1;
                checks.due(name + " has enough", model.recover(members), () -> x.recover(members));
                checks.due(name + " has too few", Checks.ILLEGAL_ARGUMENT, () -> x.recover(members >> 1));
            }
        }
    }

    private void promise2Deal() {
        checks.due("deal(12345)", Made.Y, () -> Made.fresh().deal(12345));
        checks.due("deal(0) with one signer", 1505512052L, () -> new ThresholdSeal(1, 1).deal(0));
        checks.due("deal(777) with six signers", 1386522784L, () -> new ThresholdSeal(9, 0).deal(777));
        for (long word : new long[] {0, 1, -1, Long.MIN_VALUE, Long.MAX_VALUE, Q}) {
            ThresholdSeal x = new ThresholdSeal(6, 6);
            checks.due("deal(" + word + ")", SealModel.four(SealModel.digest(1, word, 0)), () -> x.deal(word));
            SealModel model = new SealModel(6, 6);
            model.deal(word);
            for (int i = 1; i <= 6; i++) {
                int signer = i;
                checks.due("secret(" + i + ") of deal(" + word + ")", model.secretOf(i), () -> x.secret(signer));
            }
        }
    }

    private void promise2DealAnew() {
        ThresholdSeal x = Made.signed();
        x.relay(1, 0);
        x.submit(2, 5);
        x.commit(3, 7);
        checks.due("deal(12345) again", Made.Y, () -> x.deal(12345));
        for (int i = 1; i <= 5; i++) {
            int signer = i;
            checks.due("commitment(" + i + ", false) when dealt again", -1, () -> x.commitment(signer, false));
            checks.due("commitment(" + i + ", true) when dealt again", -1, () -> x.commitment(signer, true));
        }
        checks.due("begin without pairs when dealt again", Checks.ILLEGAL_STATE, () -> x.begin(7, 99));
        checks.due("deal(1) after deal(12345)", SealModel.four(SealModel.digest(1, 1, 0)), () -> x.deal(1));
        checks.due("key(0) is the new one", SealModel.four(SealModel.digest(1, 1, 0)), () -> x.key(0));
    }

    private void promise3Commit() {
        ThresholdSeal x = Made.dealt();
        checks.due("commit(1, 10)", 1896529641L, () -> x.commit(1, 10));
        checks.due("commit(2, 20)", 1879898348L, () -> x.commit(2, 20));
        for (long word : new long[] {0, -1, Long.MIN_VALUE, Long.MAX_VALUE}) {
            long d = SealModel.four(SealModel.digest(2, word, 5));
            checks.due("commit(5, " + word + ")", d, () -> x.commit(5, word));
            checks.due("D of commit(5, " + word + ")", d, () -> x.commitment(5, false));
            long e = SealModel.four(SealModel.digest(3, word, 5));
            checks.due("E of commit(5, " + word + ")", e, () -> x.commitment(5, true));
        }
        checks.due("the pair of another stands", 1896529641L, () -> x.commitment(1, false));
    }

    private void promise4Begin() {
        ThresholdSeal x = Made.committed();
        checks.due("begin(11, 99)", Made.R, () -> x.begin(11, 99));
        ThresholdSeal one = new ThresholdSeal(1, 1);
        one.deal(0);
        one.commit(1, 0);
        checks.due("begin(1, 0)", 945377155L, () -> one.begin(1, 0));
        checks.due("begin leaves the pair open", 1697891464L, () -> one.commitment(1, false));
        for (long message : new long[] {0, -1, Long.MIN_VALUE, Long.MAX_VALUE}) {
            SealModel model = new SealModel(6, 2);
            ThresholdSeal all = new ThresholdSeal(6, 2);
            checks.due("deal(5)", model.deal(5), () -> all.deal(5));
            for (int i = 1; i <= 6; i++) {
                int signer = i;
                checks.due("commit(" + i + ", 3)", model.commit(i, 3), () -> all.commit(signer, 3));
            }
            for (int set : new int[] {63, 3, 48, 33, 42}) {
                checks.due("begin(" + set + ", " + message + ")", model.begin(set, message), () -> all.begin(set, message));
            }
        }
    }

    private void promise5Sign() {
        ThresholdSeal x = Made.begun();
        checks.due("sign(1)", Made.SHARE_1, () -> x.sign(1));
        checks.due("D of 1 is gone", -1, () -> x.commitment(1, false));
        checks.due("E of 1 is gone", -1, () -> x.commitment(1, true));
        checks.due("D of 2 stands", 1879898348L, () -> x.commitment(2, false));
        checks.due("sign(2)", Made.SHARE_2, () -> x.sign(2));
        checks.due("sign(4)", Made.SHARE_4, () -> x.sign(4));
        checks.due("sign takes no share", 0, x::taken);
        checks.due("sign blames nobody", 0, x::blamed);
        ThresholdSeal told = Made.begun();
        checks.yes("submit(1, his share) before he made it", told.submit(1, Made.SHARE_1));
        checks.due("sign(1) when his share is taken", Made.SHARE_1, () -> told.sign(1));
    }

    private void promise6Submit() {
        ThresholdSeal x = Made.begun();
        checks.yes("submit(1, 0) is not right", !x.submit(1, 0));
        checks.yes("submit(1, Q - 1) is not right", !x.submit(1, Q - 1));
        checks.yes("submit(1, his share + 1) is not right", !x.submit(1, Made.SHARE_1 + 1));
        checks.yes("submit(1, the share of 2) is not right", !x.submit(1, Made.SHARE_2));
        checks.due("nothing is taken", 0, x::taken);
        checks.yes("submit(1, his share)", x.submit(1, Made.SHARE_1));
        checks.due("it is taken", 1, x::taken);
        ThresholdSeal anew = Made.begunAndCommittedAnew();
        checks.yes("submit(1, his share) with another pair open", anew.submit(1, Made.SHARE_1));
        checks.yes("submit(2, his share) with the same pair anew", anew.submit(2, Made.SHARE_2));
    }

    private void promise7Relay() {
        ThresholdSeal x = Made.signed();
        checks.yes("relay(1, 1) is not right", !x.relay(1, 1));
        checks.yes("relay(1, Q - 1) is not right", !x.relay(1, Q - 1));
        checks.due("nothing is taken", 0, x::taken);
        checks.yes("relay(1, 0)", x.relay(1, 0));
        checks.due("it is taken", 1, x::taken);
        x.commit(2, 5);
        checks.yes("relay(2, 0) with another pair open", x.relay(2, 0));
        checks.due("both are taken", 3, x::taken);
    }

    private void promise8Seal() {
        ThresholdSeal x = Made.signed();
        x.relay(4, 0);
        checks.due("seal(), two are missing", Checks.ILLEGAL_STATE, x::seal);
        x.submit(1, Made.SHARE_1);
        checks.due("seal(), one is missing", Checks.ILLEGAL_STATE, x::seal);
        x.relay(2, 1);
        checks.due("seal(), one is not right", Checks.ILLEGAL_STATE, x::seal);
        x.relay(2, 0);
        checks.due("seal()", Made.SUM, x::seal);
        checks.due("seal() again", Made.SUM, x::seal);
        x.commit(1, 3);
        checks.due("seal() when a member has committed anew", Made.SUM, x::seal);
        checks.due("shares and sum", (Made.SHARE_1 + Made.SHARE_2 + Made.SHARE_4) % Q, x::seal);
        x.commit(2, 3);
        x.commit(4, 3);
        x.begin(11, 99);
        checks.due("seal() of a new session", Checks.ILLEGAL_STATE, x::seal);
    }

    private void promise9Check() {
        ThresholdSeal x = Made.dealt();
        checks.yes("check(99, R, sum)", x.check(99, Made.R, Made.SUM));
        checks.yes("check(98, R, sum), another message", !x.check(98, Made.R, Made.SUM));
        checks.yes("check(99, R + 1, sum)", !x.check(99, Made.R + 1, Made.SUM));
        checks.yes("check(99, R, sum + 1)", !x.check(99, Made.R, Made.SUM + 1));
        // Anybody who knows the secret makes a seal of any R = 4^k: z is k + c * a(0).
        for (long k : new long[] {0, 1, Q - 1, 12345}) {
            long r = SealModel.four(k);
            long c = SealModel.digest(5, r, Made.Y, -7);
            long z = SealModel.number(SealModel.big(c).multiply(SealModel.big(Made.WHOLE_SECRET)).add(SealModel.big(k)));
            checks.yes("check(-7, 4^" + k + ", z)", x.check(-7, r, z));
            checks.yes("check(-7, 4^" + k + ", z - 1)", !x.check(-7, r, z - 1));
        }
        long[] before = Checks.seen(Made.begun());
        ThresholdSeal same = Made.begun();
        same.check(99, Made.R, Made.SUM);
        checks.yes("check changes nothing", Arrays.equals(before, Checks.seen(same)));
    }

    private void promise10Holds() {
        ThresholdSeal x = Made.sealed();
        checks.yes("holds(99, 0)", x.holds(99, 0));
        checks.yes("holds(99, 1)", !x.holds(99, 1));
        checks.yes("holds(99, Q - 1)", !x.holds(99, Q - 1));
        checks.yes("holds(98, 0)", !x.holds(98, 0));
        checks.yes("holds(-99, 0)", !x.holds(-99, 0));
        x.commit(1, 1);
        checks.yes("holds(99, 0) when a member has committed anew", x.holds(99, 0));
        ThresholdSeal two = Made.signed();
        two.relay(1, 0);
        two.relay(2, 0);
        checks.due("holds(99, 0), a share is missing", Checks.ILLEGAL_STATE, () -> Checks.bit(two.holds(99, 0)));
    }

    private void promise11Recover() {
        ThresholdSeal x = Made.dealt();
        for (int set = 0; set < 32; set++) {
            int members = set;
            long want = Integer.bitCount(set) < 3 ? Checks.ILLEGAL_ARGUMENT : Made.WHOLE_SECRET;
            checks.due("recover(" + set + ")", want, () -> x.recover(members));
        }
        long[] before = Checks.seen(Made.begun());
        ThresholdSeal same = Made.begun();
        same.recover(28);
        checks.yes("recover changes nothing", Arrays.equals(before, Checks.seen(same)));
    }

    private void promise12Key() {
        ThresholdSeal x = Made.dealt();
        checks.due("key(0)", Made.Y, () -> x.key(0));
        checks.due("key(1)", 680258800L, () -> x.key(1));
        for (int i = 1; i <= 5; i++) {
            int signer = i;
            checks.due("key(" + i + ")", SealModel.four(x.secret(i)), () -> x.key(signer));
        }
    }

    private void promise13Secret() {
        ThresholdSeal x = Made.dealt();
        checks.due("secret(2)", 707100215L, () -> x.secret(2));
        long[] a = {SealModel.digest(1, 12345, 0), SealModel.digest(1, 12345, 1), SealModel.digest(1, 12345, 2)};
        for (int i = 1; i <= 5; i++) {
            int signer = i;
            checks.due("secret(" + i + ")", (a[0] + a[1] * i + a[2] * i * i) % Q, () -> x.secret(signer));
        }
    }

    private void promise14Commitment() {
        ThresholdSeal x = Made.committed();
        checks.due("commitment(1, false)", 1896529641L, () -> x.commitment(1, false));
        checks.due("commitment(1, true)", 1232658980L, () -> x.commitment(1, true));
        x.begin(11, 99);
        x.commit(1, 77);
        checks.due("D of the pair that is open now", SealModel.four(SealModel.digest(2, 77, 1)), () -> x.commitment(1, false));
        checks.due("E of the pair that is open now", SealModel.four(SealModel.digest(3, 77, 1)), () -> x.commitment(1, true));
        x.sign(2);
        checks.due("D of a pair that is gone", -1, () -> x.commitment(2, false));
        checks.due("E of a pair that is gone", -1, () -> x.commitment(2, true));
    }

    private void promise15Factor() {
        ThresholdSeal x = Made.begun();
        checks.due("factor(1)", 625631993L, () -> x.factor(1));
        long[] told = {1, 10, 2, 20, 4, 30};
        long[] longs = new long[13];
        longs[0] = 4;
        longs[1] = Made.Y;
        longs[2] = 99;
        for (int k = 0; k < 3; k++) {
            long j = told[2 * k];
            longs[4 + 3 * k] = j;
            longs[5 + 3 * k] = SealModel.four(SealModel.digest(2, told[2 * k + 1], j));
            longs[6 + 3 * k] = SealModel.four(SealModel.digest(3, told[2 * k + 1], j));
        }
        for (int i : new int[] {1, 2, 4}) {
            longs[3] = i;
            long want = SealModel.digest(longs);
            checks.due("factor(" + i + ")", want, () -> x.factor(i));
            checks.due("factor(" + i + ") when committed anew", want, () -> Made.begunAndCommittedAnew().factor(i));
            checks.due("factor(" + i + ") when sealed", want, () -> Made.sealed().factor(i));
        }
    }

    private void promise16Weight() {
        ThresholdSeal x = Made.begun();
        checks.due("weight(1)", 715827862L, () -> x.weight(1));
        checks.due("weight(2)", Q - 2, () -> x.weight(2));
        for (int set = 1; set < 64; set++) {
            ThresholdSeal all = new ThresholdSeal(6, 1);
            all.deal(1);
            List<Integer> list = SealModel.listed(set);
            for (int i : list) {
                all.commit(i, 1);
            }
            all.begin(set, 1);
            for (int i = 1; i <= 6; i++) {
                int signer = i;
                long want = list.contains(i) ? SealModel.weightAmong(list, i) : -1;
                checks.due("weight(" + i + ") among " + set, want, () -> all.weight(signer));
            }
        }
    }

    private void promise17Challenge() {
        checks.due("challenge()", Made.CHALLENGE, () -> Made.begun().challenge());
        checks.due("challenge() is the digest", SealModel.digest(5, Made.R, Made.Y, 99), () -> Made.begun().challenge());
        checks.due("challenge() when sealed", Made.CHALLENGE, () -> Made.sealed().challenge());
        ThresholdSeal x = Made.begun();
        long r = x.begin(11, -3);
        checks.due("challenge() of the next session", SealModel.digest(5, r, Made.Y, -3), x::challenge);
        x.deal(12345);
        checks.due("challenge() when dealt again", -1, x::challenge);
    }

    private void promise18Members() {
        checks.due("members()", 11, () -> Made.begun().members());
        checks.due("members() when sealed", 11, () -> Made.sealed().members());
        ThresholdSeal x = Made.begunWithPairOf3();
        x.begin(15, 1);
        checks.due("members() of the next session", 15, x::members);
        x.begin(14, 1);
        checks.due("members() of the third session", 14, x::members);
        x.deal(1);
        checks.due("members() when dealt again", 0, x::members);
    }

    private void promise19Taken() {
        ThresholdSeal x = Made.begun();
        x.submit(4, Made.SHARE_4);
        checks.due("taken(), 4", 8, x::taken);
        x.submit(1, 0);
        checks.due("taken(), a wrong share told", 8, x::taken);
        x.sign(2);
        checks.due("taken(), a share made", 8, x::taken);
        x.relay(2, 0);
        checks.due("taken(), 2 and 4", 10, x::taken);
        x.submit(1, Made.SHARE_1);
        checks.due("taken(), all", 11, x::taken);
        x.deal(1);
        checks.due("taken() when dealt again", 0, x::taken);
    }

    private void promise20Blamed() {
        ThresholdSeal x = Made.begun();
        x.submit(4, Made.SHARE_1);
        checks.due("blamed(), 4 by submit", 8, x::blamed);
        x.sign(2);
        x.relay(2, 1);
        checks.due("blamed(), 2 by relay", 10, x::blamed);
        x.relay(2, 0);
        x.submit(4, Made.SHARE_4);
        checks.due("blamed(), right shares told since", 10, x::blamed);
        x.submit(1, Made.SHARE_1);
        checks.due("blamed(), 1 told a right share alone", 10, x::blamed);
        Checks.outcome(() -> Checks.bit(x.submit(1, 0)));
        Checks.outcome(() -> Checks.bit(x.submit(3, 0)));
        Checks.outcome(() -> Checks.bit(x.submit(1, -1)));
        checks.due("blamed(), what was refused does not count", 10, x::blamed);
        x.commit(2, 1);
        x.begin(11, 99);
        checks.due("blamed() of the next session", 0, x::blamed);
        x.submit(1, 0);
        checks.due("blamed() again", 1, x::blamed);
        x.deal(1);
        checks.due("blamed() when dealt again", 0, x::blamed);
    }
}
