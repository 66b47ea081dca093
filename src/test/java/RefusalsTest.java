import java.util.function.Supplier;

/**
 * Every sentence of the document that names a call which is refused, each in a test of its own.
 * Checks.badArgument and Checks.badState look as well whether the call changed anything.
 */
public final class RefusalsTest {
    private static final long Q = SealModel.Q;
    /** For 5 signers; those at 32 and more would wrap around in a shift. */
    private static final int[] NO_SIGNERS = {
        0, -1, 6, 7, 32, 33, 34, 65, -31, Integer.MIN_VALUE, Integer.MIN_VALUE + 1, Integer.MAX_VALUE
    };
    /** For 5 signers: each has one who is not there, most have enough of those who are. */
    private static final int[] NO_SETS = {
        32, 64, 39, 43, 63, 75, 7 | 1 << 30, 7 | 1 << 31, -1, -25, -32, Integer.MIN_VALUE, Integer.MAX_VALUE
    };
    private static final int[] TOO_FEW = {0, 1, 2, 16, 3, 10, 24};
    private static final long[] NO_NUMBERS = {
        -1, Q, Q + 1, -Q, 1L << 30, 1L << 31, 1L << 32, 1L << 63, Long.MAX_VALUE, Q << 1
    };

    private final Checks checks = new Checks();

    public static void main(String[] args) {
        RefusalsTest test = new RefusalsTest();
        test.commitNoSuchSigner();
        test.commitNothingDealt();
        test.beginNoSuchSigner();
        test.beginFewerThanEnough();
        test.beginNothingDealt();
        test.beginNoOpenPair();
        test.signNoSuchSigner();
        test.signNoMember();
        test.signPairGone();
        test.submitNoSuchSigner();
        test.submitNoNumber();
        test.submitNoMember();
        test.submitTaken();
        test.relayNoSuchSigner();
        test.relayNoNumber();
        test.relayNoMember();
        test.relayMadeNoShare();
        test.relayTaken();
        test.sealNoSession();
        test.sealShareNotTaken();
        test.holdsNoNumber();
        test.holdsAsSeal();
        test.recoverNoSuchSigner();
        test.recoverFewerThanEnough();
        test.recoverNothingDealt();
        test.firstNamedIsThrown();
        test.throwingChangesNothing();
        test.checks.end("RefusalsTest");
    }

    // ---- promise 3

    private void commitNoSuchSigner() {
        checks.sentence("commit: IllegalArgumentException when there is no such signer");
        for (int i : NO_SIGNERS) {
            checks.badArgument("commit(" + i + ", 1)", Made::mixed, x -> x.commit(i, 1));
        }
        for (int n = 1; n <= 6; n++) {
            int signers = n;
            Supplier<ThresholdSeal> made = () -> Made.allCommitted(signers, 1);
            checks.badArgument("commit(N + 1, 1), N is " + n, made, x -> x.commit(signers + 1, 1));
            checks.badArgument("commit(0, 1), N is " + n, made, x -> x.commit(0, 1));
            checks.yes("commit(N, 1), N is " + n, made.get().commit(signers, 1) > 0);
        }
    }

    private void commitNothingDealt() {
        checks.sentence("commit: IllegalStateException when nothing is dealt");
        for (int i = 1; i <= 5; i++) {
            int signer = i;
            checks.badState("commit(" + i + ", 1)", Made::fresh, x -> x.commit(signer, 1));
        }
        ThresholdSeal x = Made.fresh();
        Checks.outcome(() -> x.commit(1, 10));
        x.deal(12345);
        checks.due("the pair that was refused", -1, () -> x.commitment(1, false));
        checks.due("commit(1, 10) as soon as it is dealt", 1896529641L, () -> x.commit(1, 10));
    }

    // ---- promise 4

    private void beginNoSuchSigner() {
        checks.sentence("begin: IllegalArgumentException when members has a signer that there is none");
        for (int set : NO_SETS) {
            checks.badArgument("begin(" + set + ", 1)", Made::mixed, x -> x.begin(set, 1));
        }
        for (int n = 1; n <= 6; n++) {
            int signers = n;
            int all = (1 << n) - 1;
            Supplier<ThresholdSeal> made = () -> Made.allCommitted(signers, 1);
            for (int bit = n; bit < 32; bit++) {
                int set = all | 1 << bit;
                checks.badArgument("begin(" + set + ", 1), N is " + n, made, x -> x.begin(set, 1));
            }
            checks.yes("begin(" + all + ", 1), N is " + n, made.get().begin(all, 1) > 0);
        }
    }

    private void beginFewerThanEnough() {
        checks.sentence("begin: IllegalArgumentException when members has fewer than T");
        for (int set : TOO_FEW) {
            checks.badArgument("begin(" + set + ", 1)", Made::mixed, x -> x.begin(set, 1));
        }
        for (int t = 1; t <= 6; t++) {
            int enough = t;
            Supplier<ThresholdSeal> made = () -> Made.allCommitted(6, enough);
            for (int set = 0; set < 64; set++) {
                int members = set;
                if (Integer.bitCount(set) == t - 1) {
                    checks.badArgument("begin(" + set + ", 1), T is " + t, made, x -> x.begin(members, 1));
                }
            }
        }
    }

    private void beginNothingDealt() {
        checks.sentence("begin: IllegalStateException when nothing is dealt");
        checks.badState("begin(7, 1)", Made::fresh, x -> x.begin(7, 1));
        checks.badState("begin(31, 0)", Made::fresh, x -> x.begin(31, 0));
        checks.badState("begin(1, 0) of one signer", () -> new ThresholdSeal(1, 1), x -> x.begin(1, 0));
    }

    private void beginNoOpenPair() {
        checks.sentence("begin: IllegalStateException when a member has no open pair");
        checks.badState("nobody has one", Made::dealt, x -> x.begin(11, 1));
        for (int set : new int[] {7, 14, 15, 27, 28, 31}) {
            checks.badState("begin(" + set + ", 1), some have none", Made::begun, x -> x.begin(set, 1));
        }
        checks.badState("begin(11, 99), pairs of shares that are made", Made::signed, x -> x.begin(11, 99));
        checks.badState("begin(11, 99), one share is made", Made::mixed, x -> x.begin(11, 99));
        checks.badState("begin(11, 99), dealt anew", Made::sealedThenDealtAnew, x -> x.begin(11, 99));
        for (int missing = 1; missing <= 6; missing++) {
            int without = missing;
            Supplier<ThresholdSeal> made = () -> allButOne(without);
            checks.badState("begin(63, 1), " + missing + " has none", made, x -> x.begin(63, 1));
            checks.yes("begin without " + missing, made.get().begin(63 ^ 1 << (missing - 1), 1) > 0);
        }
    }

    private static ThresholdSeal allButOne(int without) {
        ThresholdSeal x = new ThresholdSeal(6, 3);
        x.deal(7);
        for (int i = 1; i <= 6; i++) {
            if (i != without) {
                x.commit(i, 1);
            }
        }
        return x;
    }

    // ---- promise 5

    private void signNoSuchSigner() {
        checks.sentence("sign: IllegalArgumentException when there is no such signer");
        for (int i : NO_SIGNERS) {
            checks.badArgument("sign(" + i + ")", Made::begun, x -> x.sign(i));
        }
        for (int n = 1; n <= 6; n++) {
            int signers = n;
            Supplier<ThresholdSeal> made = () -> allBegun(signers);
            checks.badArgument("sign(N + 1), N is " + n, made, x -> x.sign(signers + 1));
            checks.yes("sign(N), N is " + n, made.get().sign(signers) >= 0);
        }
    }

    private static ThresholdSeal allBegun(int signers) {
        ThresholdSeal x = Made.allCommitted(signers, 1);
        x.begin((1 << signers) - 1, 1);
        return x;
    }

    private void signNoMember() {
        checks.sentence("sign: IllegalStateException when he is no member of a session");
        checks.badState("sign(1), nothing is dealt", Made::fresh, x -> x.sign(1));
        checks.badState("sign(1), no session and no pair", Made::dealt, x -> x.sign(1));
        checks.badState("sign(1), no session", Made::committed, x -> x.sign(1));
        checks.badState("sign(3), no member", Made::begun, x -> x.sign(3));
        checks.badState("sign(5), no member", Made::begun, x -> x.sign(5));
        checks.badState("sign(3), no member but a pair", Made::begunWithPairOf3, x -> x.sign(3));
        checks.badState("sign(1), a member of the session before alone", Made::begunAnewWithout1, x -> x.sign(1));
        checks.badState("sign(1), dealt anew", Made::sealedThenDealtAnew, x -> x.sign(1));
        checks.badState("sign(1), dealt and committed anew", RefusalsTest::dealtAndCommittedAnew, x -> x.sign(1));
    }

    private static ThresholdSeal dealtAndCommittedAnew() {
        ThresholdSeal x = Made.begun();
        x.deal(12345);
        x.commit(1, 10);
        return x;
    }

    private void signPairGone() {
        checks.sentence("sign: IllegalStateException when the pair that he had when it began is gone");
        checks.badState("sign(1) again", Made::signed, x -> x.sign(1));
        checks.badState("sign(1) again, taken", Made::sealed, x -> x.sign(1));
        checks.badState("sign(1), another pair is open", Made::begunAndCommittedAnew, x -> x.sign(1));
        checks.badState("sign(2), the same pair anew", Made::begunAndCommittedAnew, x -> x.sign(2));
        checks.badState("sign(1), signed and committed anew", Made::signedAndCommittedAnew, x -> x.sign(1));
        checks.due("sign(4) beside them", Made.SHARE_4, () -> Made.begunAndCommittedAnew().sign(4));
    }

    // ---- promise 6

    private void submitNoSuchSigner() {
        checks.sentence("submit: IllegalArgumentException when there is no such signer");
        for (int i : NO_SIGNERS) {
            checks.badArgument("submit(" + i + ", 0)", Made::mixed, x -> Checks.bit(x.submit(i, 0)));
        }
        checks.badArgument("submit(33, the share of 1)", Made::mixed, x -> Checks.bit(x.submit(33, Made.SHARE_1)));
        for (int n = 1; n <= 6; n++) {
            int signers = n;
            Supplier<ThresholdSeal> made = () -> allBegun(signers);
            checks.badArgument("submit(N + 1, 0), N is " + n, made, x -> Checks.bit(x.submit(signers + 1, 0)));
            checks.due("submit(N, 0), N is " + n, 0, () -> Checks.bit(made.get().submit(signers, 0)));
        }
    }

    private void submitNoNumber() {
        checks.sentence("submit: IllegalArgumentException when z is no number");
        for (long z : NO_NUMBERS) {
            checks.badArgument("submit(1, " + z + ")", Made::begun, x -> Checks.bit(x.submit(1, z)));
        }
        for (long off : new long[] {Q, -Q, 2 * Q, 1L << 32, 1L << 63}) {
            long z = Made.SHARE_1 + off;
            checks.badArgument("submit(1, his share + " + off + ")", Made::begun, x -> Checks.bit(x.submit(1, z)));
        }
        checks.due("submit(1, 0)", 0, () -> Checks.bit(Made.begun().submit(1, 0)));
        checks.due("submit(1, Q - 1)", 0, () -> Checks.bit(Made.begun().submit(1, Q - 1)));
    }

    private void submitNoMember() {
        checks.sentence("submit: IllegalStateException when he is no member of a session");
        checks.badState("submit(1, 0), nothing is dealt", Made::fresh, x -> Checks.bit(x.submit(1, 0)));
        checks.badState("submit(1, 0), no session", Made::committed, x -> Checks.bit(x.submit(1, 0)));
        checks.badState("submit(3, 0), no member", Made::mixed, x -> Checks.bit(x.submit(3, 0)));
        checks.badState("submit(3, 0), no member but a pair", Made::begunWithPairOf3, x -> Checks.bit(x.submit(3, 0)));
        checks.badState("submit(1, 0), a member of the session before alone", Made::begunAnewWithout1,
            x -> Checks.bit(x.submit(1, 0)));
        checks.badState("submit(1, his share), dealt anew", Made::sealedThenDealtAnew,
            x -> Checks.bit(x.submit(1, Made.SHARE_1)));
    }

    private void submitTaken() {
        checks.sentence("submit: IllegalStateException when his share is taken");
        checks.badState("submit(1, his share)", Made::sealed, x -> Checks.bit(x.submit(1, Made.SHARE_1)));
        checks.badState("submit(4, his share), others are not", Made::mixed, x -> Checks.bit(x.submit(4, Made.SHARE_4)));
        checks.badState("submit(4, 0), which is not right", Made::mixed, x -> Checks.bit(x.submit(4, 0)));
        checks.badState("submit(1, his share), submitted", RefusalsTest::submitted,
            x -> Checks.bit(x.submit(1, Made.SHARE_1)));
        checks.due("submit(1, his share), blamed but not taken", 1, () -> Checks.bit(blamed().submit(1, Made.SHARE_1)));
        checks.due("submit(1, 0), blamed but not taken", 0, () -> Checks.bit(blamed().submit(1, 0)));
    }

    private static ThresholdSeal submitted() {
        ThresholdSeal x = Made.begun();
        x.submit(1, Made.SHARE_1);
        return x;
    }

    private static ThresholdSeal blamed() {
        ThresholdSeal x = Made.begun();
        x.submit(1, 0);
        return x;
    }

    // ---- promise 7

    private void relayNoSuchSigner() {
        checks.sentence("relay: IllegalArgumentException when there is no such signer");
        for (int i : NO_SIGNERS) {
            checks.badArgument("relay(" + i + ", 0)", Made::signed, x -> Checks.bit(x.relay(i, 0)));
        }
        for (int n = 1; n <= 6; n++) {
            int signers = n;
            Supplier<ThresholdSeal> made = () -> allBegun(signers);
            checks.badArgument("relay(N + 1, 0), N is " + n, made, x -> Checks.bit(x.relay(signers + 1, 0)));
        }
    }

    private void relayNoNumber() {
        checks.sentence("relay: IllegalArgumentException when more is no number");
        for (long more : NO_NUMBERS) {
            checks.badArgument("relay(1, " + more + ")", Made::signed, x -> Checks.bit(x.relay(1, more)));
        }
        checks.due("relay(1, 0)", 1, () -> Checks.bit(Made.signed().relay(1, 0)));
        checks.due("relay(1, Q - 1)", 0, () -> Checks.bit(Made.signed().relay(1, Q - 1)));
    }

    private void relayNoMember() {
        checks.sentence("relay: IllegalStateException when he is no member of a session");
        checks.badState("relay(1, 0), nothing is dealt", Made::fresh, x -> Checks.bit(x.relay(1, 0)));
        checks.badState("relay(1, 0), no session", Made::committed, x -> Checks.bit(x.relay(1, 0)));
        checks.badState("relay(3, 0), no member", Made::signed, x -> Checks.bit(x.relay(3, 0)));
        checks.badState("relay(1, 0), dealt anew", Made::sealedThenDealtAnew, x -> Checks.bit(x.relay(1, 0)));
        checks.badState("relay(1, 0), no member of the second session", RefusalsTest::signedThenBegunWithout1,
            x -> Checks.bit(x.relay(1, 0)));
    }

    private static ThresholdSeal signedThenBegunWithout1() {
        ThresholdSeal x = Made.begunWithPairOf3();
        x.sign(1);
        x.begin(14, Made.MESSAGE);
        return x;
    }

    private void relayMadeNoShare() {
        checks.sentence("relay: IllegalStateException when he made no share in it");
        checks.badState("relay(1, 0)", Made::begun, x -> Checks.bit(x.relay(1, 0)));
        checks.badState("relay(2, 0), others made theirs", Made::mixed, x -> Checks.bit(x.relay(2, 0)));
        checks.badState("relay(1, 0), made in the session before", Made::signedThenBegunAnew,
            x -> Checks.bit(x.relay(1, 0)));
        checks.badState("relay(1, 0), his share was submitted", RefusalsTest::submitted, x -> Checks.bit(x.relay(1, 0)));
        checks.badState("relay(1, 0), his pair is another", Made::begunAndCommittedAnew, x -> Checks.bit(x.relay(1, 0)));
    }

    private void relayTaken() {
        checks.sentence("relay: IllegalStateException when his share is taken");
        checks.badState("relay(1, 0)", Made::sealed, x -> Checks.bit(x.relay(1, 0)));
        checks.badState("relay(4, 0), others are not", Made::mixed, x -> Checks.bit(x.relay(4, 0)));
        checks.badState("relay(4, 1), which is not right", Made::mixed, x -> Checks.bit(x.relay(4, 1)));
        checks.badState("relay(1, 0), taken before he made it", RefusalsTest::submittedAndSigned,
            x -> Checks.bit(x.relay(1, 0)));
    }

    private static ThresholdSeal submittedAndSigned() {
        ThresholdSeal x = submitted();
        x.sign(1);
        return x;
    }

    // ---- promises 8 and 10

    private void sealNoSession() {
        checks.sentence("seal: IllegalStateException when there is no session");
        checks.badState("nothing is dealt", Made::fresh, ThresholdSeal::seal);
        checks.badState("dealt", Made::dealt, ThresholdSeal::seal);
        checks.badState("committed", Made::committed, ThresholdSeal::seal);
        checks.badState("sealed and dealt anew", Made::sealedThenDealtAnew, ThresholdSeal::seal);
    }

    private void sealShareNotTaken() {
        checks.sentence("seal: IllegalStateException when the share of a member is not taken");
        checks.badState("no share is made", Made::begun, ThresholdSeal::seal);
        checks.badState("shares are made, none is told", Made::signed, ThresholdSeal::seal);
        for (int set = 0; set < 63; set++) {
            int taken = set;
            checks.badState("taken are " + set, () -> takenOf(taken), ThresholdSeal::seal);
        }
        checks.yes("all are taken", takenOf(63).seal() >= 0);
    }

    /** Six members, of whom the shares of some are taken and the others are blamed. */
    private static ThresholdSeal takenOf(int set) {
        ThresholdSeal x = allBegun(6);
        for (int i = 1; i <= 6; i++) {
            x.sign(i);
            x.relay(i, 1 - (set >> (i - 1) & 1));
        }
        return x;
    }

    private void holdsNoNumber() {
        checks.sentence("holds: IllegalArgumentException when more is no number");
        for (long more : NO_NUMBERS) {
            checks.badArgument("holds(99, " + more + ")", Made::sealed, x -> Checks.bit(x.holds(99, more)));
        }
        checks.due("holds(99, 0)", 1, () -> Checks.bit(Made.sealed().holds(99, 0)));
        checks.due("holds(99, Q - 1)", 0, () -> Checks.bit(Made.sealed().holds(99, Q - 1)));
    }

    private void holdsAsSeal() {
        checks.sentence("holds: IllegalStateException as seal()");
        checks.badState("nothing is dealt", Made::fresh, x -> Checks.bit(x.holds(99, 0)));
        checks.badState("no session", Made::committed, x -> Checks.bit(x.holds(99, 0)));
        checks.badState("dealt anew", Made::sealedThenDealtAnew, x -> Checks.bit(x.holds(99, 0)));
        checks.badState("no share is made", Made::begun, x -> Checks.bit(x.holds(99, 0)));
        checks.badState("no share is told", Made::signed, x -> Checks.bit(x.holds(99, 0)));
        for (int set = 0; set < 63; set++) {
            int taken = set;
            checks.badState("taken are " + set, () -> takenOf(taken), x -> Checks.bit(x.holds(1, 0)));
        }
        checks.yes("all are taken", takenOf(63).holds(1, 0));
    }

    // ---- promise 11

    private void recoverNoSuchSigner() {
        checks.sentence("recover: IllegalArgumentException as begin(), a signer that there is none");
        for (int set : NO_SETS) {
            checks.badArgument("recover(" + set + ")", Made::mixed, x -> x.recover(set));
        }
        for (int n = 1; n <= 6; n++) {
            int signers = n;
            for (int bit = n; bit < 32; bit++) {
                int set = (1 << n) - 1 | 1 << bit;
                checks.badArgument("recover(" + set + "), N is " + n, () -> Made.allCommitted(signers, 1), x -> x.recover(set));
            }
        }
    }

    private void recoverFewerThanEnough() {
        checks.sentence("recover: IllegalArgumentException as begin(), fewer than T");
        for (int set : TOO_FEW) {
            checks.badArgument("recover(" + set + ")", Made::mixed, x -> x.recover(set));
        }
        for (int t = 1; t <= 6; t++) {
            ThresholdSeal x = new ThresholdSeal(6, t);
            x.deal(7);
            for (int set = 0; set < 64; set++) {
                int members = set;
                long want = Integer.bitCount(set) < t ? Checks.ILLEGAL_ARGUMENT : Crafted.digest(1, 7, 0);
                checks.due("recover(" + set + "), T is " + t, want, () -> x.recover(members));
            }
        }
    }

    private void recoverNothingDealt() {
        checks.sentence("recover: IllegalStateException when nothing is dealt");
        checks.badState("recover(7)", Made::fresh, x -> x.recover(7));
        checks.badState("recover(31)", Made::fresh, x -> x.recover(31));
        checks.badState("recover(1) of one signer", () -> new ThresholdSeal(1, 1), x -> x.recover(1));
        checks.due("recover(28) needs no pairs", Made.WHOLE_SECRET, () -> Made.dealt().recover(28));
    }

    // ---- what holds for all of them

    private void firstNamedIsThrown() {
        checks.sentence("Where it may throw two things, the one that is named first is thrown when both are so");
        for (int i : NO_SIGNERS) {
            checks.badArgument("commit(" + i + ", 1), nothing is dealt", Made::fresh, x -> x.commit(i, 1));
            checks.badArgument("sign(" + i + "), nothing is dealt", Made::fresh, x -> x.sign(i));
            checks.badArgument("sign(" + i + "), no session", Made::committed, x -> x.sign(i));
            checks.badArgument("submit(" + i + ", 0), no session", Made::committed, x -> Checks.bit(x.submit(i, 0)));
            checks.badArgument("relay(" + i + ", 0), no session", Made::committed, x -> Checks.bit(x.relay(i, 0)));
        }
        for (int set : NO_SETS) {
            noSetFirst(set);
        }
        for (int set : TOO_FEW) {
            noSetFirst(set);
        }
        for (long number : NO_NUMBERS) {
            noNumberFirst(number);
        }
    }

    private void noSetFirst(int set) {
        checks.badArgument("begin(" + set + ", 1), nothing is dealt", Made::fresh, x -> x.begin(set, 1));
        checks.badArgument("begin(" + set + ", 1), no open pair", Made::dealt, x -> x.begin(set, 1));
        checks.badArgument("begin(" + set + ", 1), a pair is gone", Made::signed, x -> x.begin(set, 1));
        checks.badArgument("recover(" + set + "), nothing is dealt", Made::fresh, x -> x.recover(set));
    }

    private void noNumberFirst(long z) {
        checks.badArgument("submit(1, " + z + "), nothing is dealt", Made::fresh, x -> Checks.bit(x.submit(1, z)));
        checks.badArgument("submit(1, " + z + "), no session", Made::committed, x -> Checks.bit(x.submit(1, z)));
        checks.badArgument("submit(3, " + z + "), no member", Made::begun, x -> Checks.bit(x.submit(3, z)));
        checks.badArgument("submit(1, " + z + "), taken", Made::sealed, x -> Checks.bit(x.submit(1, z)));
        checks.badArgument("relay(1, " + z + "), nothing is dealt", Made::fresh, x -> Checks.bit(x.relay(1, z)));
        checks.badArgument("relay(1, " + z + "), no session", Made::committed, x -> Checks.bit(x.relay(1, z)));
        checks.badArgument("relay(3, " + z + "), no member", Made::begun, x -> Checks.bit(x.relay(3, z)));
        checks.badArgument("relay(1, " + z + "), not made", Made::begun, x -> Checks.bit(x.relay(1, z)));
        checks.badArgument("relay(1, " + z + "), taken", Made::sealed, x -> Checks.bit(x.relay(1, z)));
        checks.badArgument("holds(99, " + z + "), nothing is dealt", Made::fresh, x -> Checks.bit(x.holds(99, z)));
        checks.badArgument("holds(99, " + z + "), no session", Made::committed, x -> Checks.bit(x.holds(99, z)));
        checks.badArgument("holds(99, " + z + "), not taken", Made::signed, x -> Checks.bit(x.holds(99, z)));
    }

    /** One object, and between any two calls of a whole session all that is refused there. */
    private void throwingChangesNothing() {
        checks.sentence("A call that throws changes nothing");
        ThresholdSeal x = Made.fresh();
        allRefused(x);
        checks.due("deal(12345)", Made.Y, () -> x.deal(12345));
        allRefused(x);
        checks.due("commit(1, 10)", 1896529641L, () -> x.commit(1, 10));
        checks.due("commit(2, 20)", 1879898348L, () -> x.commit(2, 20));
        checks.due("commit(4, 30)", 1864358713L, () -> x.commit(4, 30));
        allRefused(x);
        checks.due("begin(11, 99)", Made.R, () -> x.begin(11, 99));
        allRefused(x);
        checks.due("sign(1)", Made.SHARE_1, () -> x.sign(1));
        allRefused(x);
        checks.due("sign(2)", Made.SHARE_2, () -> x.sign(2));
        checks.due("submit(4, his share)", 1, () -> Checks.bit(x.submit(4, Made.SHARE_4)));
        allRefused(x);
        checks.due("sign(4)", Made.SHARE_4, () -> x.sign(4));
        checks.due("relay(1, 0)", 1, () -> Checks.bit(x.relay(1, 0)));
        allRefused(x);
        checks.due("relay(2, 0)", 1, () -> Checks.bit(x.relay(2, 0)));
        allRefused(x);
        checks.due("seal()", Made.SUM, x::seal);
        checks.due("taken()", 11, x::taken);
        checks.due("blamed()", 0, x::blamed);
    }

    private void allRefused(ThresholdSeal x) {
        checks.due("commit(6, 1)", Checks.ILLEGAL_ARGUMENT, () -> x.commit(6, 1));
        checks.due("begin(3, 1)", Checks.ILLEGAL_ARGUMENT, () -> x.begin(3, 1));
        checks.due("begin(43, 1)", Checks.ILLEGAL_ARGUMENT, () -> x.begin(43, 1));
        checks.due("begin(31, 1)", Checks.ILLEGAL_STATE, () -> x.begin(31, 1));
        checks.due("sign(33)", Checks.ILLEGAL_ARGUMENT, () -> x.sign(33));
        checks.due("sign(3)", Checks.ILLEGAL_STATE, () -> x.sign(3));
        checks.due("submit(1, Q)", Checks.ILLEGAL_ARGUMENT, () -> Checks.bit(x.submit(1, Q)));
        checks.due("submit(3, 0)", Checks.ILLEGAL_STATE, () -> Checks.bit(x.submit(3, 0)));
        checks.due("relay(1, -1)", Checks.ILLEGAL_ARGUMENT, () -> Checks.bit(x.relay(1, -1)));
        checks.due("relay(3, 0)", Checks.ILLEGAL_STATE, () -> Checks.bit(x.relay(3, 0)));
        checks.due("holds(99, Q)", Checks.ILLEGAL_ARGUMENT, () -> Checks.bit(x.holds(99, Q)));
        checks.due("recover(12)", Checks.ILLEGAL_ARGUMENT, () -> x.recover(12));
    }
}
