import java.util.Arrays;

/**
 * The sentences of the promises that name a bound, or an answer for when there is none, each in a
 * test of its own. What is refused stands in RefusalsTest.
 */
public final class EdgesTest {
    private static final long Q = SealModel.Q;
    /** For 5 signers. */
    private static final int[] NO_SIGNERS = {
        -1, 6, 7, 31, 32, 33, 34, 65, -31, Integer.MIN_VALUE, Integer.MIN_VALUE + 1, Integer.MAX_VALUE
    };

    private final Checks checks = new Checks();

    public static void main(String[] args) {
        EdgesTest test = new EdgesTest();
        test.signersAtLeastOne();
        test.signersAtMostSix();
        test.enoughAtLeastOne();
        test.enoughAtMostSigners();
        test.nothingIsDealt();
        test.sessionInPlaceOfTheOneThereWas();
        test.pairIsGoneWhenSigned();
        test.submitTakesWhatIsRight();
        test.relayTakesWhatIsRight();
        test.checkWhenNothingIsDealt();
        test.keyWhenThereIsNone();
        test.secretWhenThereIsNone();
        test.commitmentWhenThereIsNone();
        test.factorWhenHeIsNone();
        test.weightWhenHeIsNone();
        test.challengeWhenThereIsNone();
        test.membersWhenThereIsNone();
        test.takenFromNoneToAll();
        test.blamedInThisSession();
        test.askingChangesNothing();
        test.checks.end("EdgesTest");
    }

    // ---- promise 1

    /** N and T, as they show: the last signer, the least set that is enough. */
    private void hasBounds(int signers, int enough, int n, int t) {
        ThresholdSeal x = new ThresholdSeal(signers, enough);
        String name = "new ThresholdSeal(" + signers + ", " + enough + ")";
        x.deal(1);
        checks.yes(name + " has signer " + n, x.secret(n) >= 0 && x.key(n) > 0 && x.commit(n, 1) > 0);
        checks.due(name + " has no secret more", -1, () -> x.secret(n + 1));
        checks.due(name + " has no key more", -1, () -> x.key(n + 1));
        checks.due(name + " has no signer more", Checks.ILLEGAL_ARGUMENT, () -> x.commit(n + 1, 1));
        int least = (1 << t) - 1;
        checks.due(name + " has enough", Crafted.digest(1, 1, 0), () -> x.recover(least));
        checks.due(name + " has too few", Checks.ILLEGAL_ARGUMENT, () -> x.recover(least >> 1));
        checks.due(name + " has all", Crafted.digest(1, 1, 0), () -> x.recover((1 << n) - 1));
        checks.due(name + " has no more", Checks.ILLEGAL_ARGUMENT, () -> x.recover((2 << n) - 1));
    }

    private void signersAtLeastOne() {
        checks.sentence("N is signers, but at least 1");
        hasBounds(1, 1, 1, 1);
        hasBounds(0, 1, 1, 1);
        hasBounds(-1, 1, 1, 1);
        hasBounds(-6, 1, 1, 1);
        hasBounds(Integer.MIN_VALUE, 1, 1, 1);
    }

    private void signersAtMostSix() {
        checks.sentence("N is signers, but at most 6");
        hasBounds(5, 2, 5, 2);
        hasBounds(6, 2, 6, 2);
        hasBounds(7, 2, 6, 2);
        hasBounds(8, 2, 6, 2);
        hasBounds(32, 2, 6, 2);
        hasBounds(Integer.MAX_VALUE, 2, 6, 2);
    }

    private void enoughAtLeastOne() {
        checks.sentence("T is enough, but at least 1");
        hasBounds(4, 1, 4, 1);
        hasBounds(4, 0, 4, 1);
        hasBounds(4, -1, 4, 1);
        hasBounds(4, Integer.MIN_VALUE, 4, 1);
        hasBounds(0, 0, 1, 1);
        hasBounds(Integer.MIN_VALUE, Integer.MIN_VALUE, 1, 1);
    }

    private void enoughAtMostSigners() {
        checks.sentence("T is enough, but at most N");
        for (int n = 1; n <= 6; n++) {
            hasBounds(n, n, n, n);
            hasBounds(n, n + 1, n, n);
            hasBounds(n, Integer.MAX_VALUE, n, n);
        }
        hasBounds(7, 7, 6, 6);
        hasBounds(9, 6, 6, 6);
        hasBounds(0, 2, 1, 1);
        hasBounds(-3, 7, 1, 1);
    }

    private void nothingIsDealt() {
        checks.sentence("Nothing is dealt");
        for (int n = 1; n <= 6; n++) {
            ThresholdSeal x = new ThresholdSeal(n, 1);
            for (int i = -1; i <= 7; i++) {
                int signer = i;
                checks.due("key(" + i + ")", -1, () -> x.key(signer));
                checks.due("secret(" + i + ")", -1, () -> x.secret(signer));
                checks.due("commitment(" + i + ", false)", -1, () -> x.commitment(signer, false));
                checks.due("commitment(" + i + ", true)", -1, () -> x.commitment(signer, true));
                checks.due("factor(" + i + ")", -1, () -> x.factor(signer));
                checks.due("weight(" + i + ")", -1, () -> x.weight(signer));
            }
            checks.due("challenge()", -1, x::challenge);
            checks.due("members()", 0, x::members);
            checks.due("taken()", 0, x::taken);
            checks.due("blamed()", 0, x::blamed);
            checks.due("recover(1)", Checks.ILLEGAL_STATE, () -> x.recover(1));
            checks.due("commit(1, 0)", Checks.ILLEGAL_STATE, () -> x.commit(1, 0));
        }
    }

    // ---- promises 4 to 7

    private void sessionInPlaceOfTheOneThereWas() {
        checks.sentence("begin: in place of the one there was");
        ThresholdSeal x = Made.mixed();
        x.commit(1, 40);
        x.commit(5, 50);
        x.begin(1 | 2 | 16, 7);
        checks.due("members()", 19, x::members);
        checks.due("taken()", 0, x::taken);
        checks.due("blamed()", 0, x::blamed);
        checks.due("factor(4), no member any more", -1, () -> x.factor(4));
        checks.due("weight(4), no member any more", -1, () -> x.weight(4));
        checks.due("sign(4), no member any more", Checks.ILLEGAL_STATE, () -> x.sign(4));
        checks.due("relay(1, 0), a share of the old one", Checks.ILLEGAL_STATE, () -> Checks.bit(x.relay(1, 0)));
        for (int i : new int[] {1, 2, 5}) {
            checks.yes("sign(" + i + ")", x.sign(i) >= 0);
            checks.due("seal() before all are taken", Checks.ILLEGAL_STATE, x::seal);
            checks.yes("relay(" + i + ", 0)", x.relay(i, 0));
        }
        checks.yes("holds(7, 0)", x.holds(7, 0));
        checks.yes("the old message does not hold", !x.holds(99, 0));
    }

    private void pairIsGoneWhenSigned() {
        checks.sentence("sign: his pair is gone");
        ThresholdSeal x = Made.begunWithPairOf3();
        long others = x.commitment(2, false);
        x.sign(1);
        checks.due("commitment(1, false)", -1, () -> x.commitment(1, false));
        checks.due("commitment(1, true)", -1, () -> x.commitment(1, true));
        checks.due("commitment(2, false)", others, () -> x.commitment(2, false));
        checks.due("begin(11, 99) with him", Checks.ILLEGAL_STATE, () -> x.begin(11, 99));
        checks.yes("begin(14, 99) without him", x.begin(14, 99) > 0);
        ThresholdSeal told = Made.begun();
        told.submit(1, Made.SHARE_1);
        checks.yes("a share that is told leaves the pair open", told.commitment(1, false) > 0);
        checks.due("sign(1) when his share is taken", Made.SHARE_1, () -> told.sign(1));
        checks.due("then it is gone", -1, () -> told.commitment(1, false));
    }

    private void submitTakesWhatIsRight() {
        checks.sentence("submit: true when it is right, and it is TAKEN then");
        ThresholdSeal x = Made.begun();
        for (long z : new long[] {0, 1, Made.SHARE_1 - 1, Made.SHARE_1 + 1, Made.SHARE_2, Q - 1, Q - Made.SHARE_1}) {
            checks.due("submit(1, " + z + ")", 0, () -> Checks.bit(x.submit(1, z)));
            checks.due("taken() after it", 0, x::taken);
        }
        checks.due("submit(1, his share)", 1, () -> Checks.bit(x.submit(1, Made.SHARE_1)));
        checks.due("taken() after it", 1, x::taken);
    }

    private void relayTakesWhatIsRight() {
        checks.sentence("relay: true when that is right, and it is taken then");
        ThresholdSeal x = Made.signed();
        for (long more : new long[] {1, 2, Q - 1, Q - Made.SHARE_1, Q - Made.SHARE_1 - 1}) {
            checks.due("relay(1, " + more + ")", 0, () -> Checks.bit(x.relay(1, more)));
            checks.due("taken() after it", 0, x::taken);
            checks.due("blamed() after it", 1, x::blamed);
        }
        checks.due("relay(1, 0)", 1, () -> Checks.bit(x.relay(1, 0)));
        checks.due("taken() after it", 1, x::taken);
    }

    // ---- promise 9

    private void checkWhenNothingIsDealt() {
        checks.sentence("check: false when nothing is dealt");
        ThresholdSeal x = Made.fresh();
        checks.due("a seal that would hold", 0, () -> Checks.bit(x.check(Made.MESSAGE, Made.R, Made.SUM)));
        // Whatever stands for the key of all before a deal, 4^z is R when the challenge is 0.
        for (long y : new long[] {0, 1, -1}) {
            for (long z : new long[] {0, 1, Q - 1}) {
                long r = SealModel.four(z);
                long message = Crafted.message(new long[] {5, r, y}, new long[0], 0);
                checks.due("check(" + message + ", " + r + ", " + z + ")", 0, () -> Checks.bit(x.check(message, r, z)));
            }
        }
        x.deal(12345);
        checks.due("the seal as soon as it is dealt", 1, () -> Checks.bit(x.check(Made.MESSAGE, Made.R, Made.SUM)));
        x.deal(54321);
        checks.due("the seal when it is dealt otherwise", 0, () -> Checks.bit(x.check(Made.MESSAGE, Made.R, Made.SUM)));
    }

    // ---- promises 12 to 20

    private void keyWhenThereIsNone() {
        checks.sentence("key: the key of all for 0; -1 when there is none");
        ThresholdSeal x = Made.dealt();
        checks.due("key(0)", Made.Y, () -> x.key(0));
        checks.due("key(5)", SealModel.four(x.secret(5)), () -> x.key(5));
        for (int i : NO_SIGNERS) {
            checks.due("key(" + i + ")", -1, () -> x.key(i));
        }
        for (int i = 0; i <= 5; i++) {
            int signer = i;
            checks.due("key(" + i + "), nothing is dealt", -1, () -> Made.fresh().key(signer));
        }
    }

    private void secretWhenThereIsNone() {
        checks.sentence("secret: -1 when there is none");
        ThresholdSeal x = Made.dealt();
        checks.due("secret(0), the whole one is told to nobody", -1, () -> x.secret(0));
        checks.due("secret(2)", 707100215L, () -> x.secret(2));
        for (int i : NO_SIGNERS) {
            checks.due("secret(" + i + ")", -1, () -> x.secret(i));
        }
        for (int i = 0; i <= 5; i++) {
            int signer = i;
            checks.due("secret(" + i + "), nothing is dealt", -1, () -> Made.fresh().secret(signer));
        }
    }

    private void commitmentWhenThereIsNone() {
        checks.sentence("commitment: -1 when there is none");
        for (boolean second : new boolean[] {false, true}) {
            ThresholdSeal x = Made.begun();
            for (int i : NO_SIGNERS) {
                checks.due("commitment(" + i + ", " + second + ")", -1, () -> x.commitment(i, second));
            }
            for (int i : new int[] {0, 3, 5}) {
                checks.due("commitment(" + i + ", " + second + "), no pair", -1, () -> x.commitment(i, second));
            }
            checks.yes("commitment(1, " + second + ")", x.commitment(1, second) > 0);
            checks.due("a pair that is gone", -1, () -> Made.signed().commitment(1, second));
            checks.due("dealt anew", -1, () -> Made.sealedThenDealtAnew().commitment(3, second));
            checks.due("nothing is dealt", -1, () -> Made.fresh().commitment(1, second));
        }
    }

    private void factorWhenHeIsNone() {
        checks.sentence("factor: -1 when he is none");
        ThresholdSeal x = Made.begun();
        checks.due("factor(1)", 625631993L, () -> x.factor(1));
        for (int i : NO_SIGNERS) {
            checks.due("factor(" + i + ")", -1, () -> x.factor(i));
        }
        for (int i : new int[] {0, 3, 5}) {
            checks.due("factor(" + i + "), no member", -1, () -> x.factor(i));
        }
        checks.due("factor(3), no member but a pair", -1, () -> Made.begunWithPairOf3().factor(3));
        checks.due("factor(1), of the session before alone", -1, () -> Made.begunAnewWithout1().factor(1));
        checks.due("factor(1), no session", -1, () -> Made.committed().factor(1));
        checks.due("factor(1), dealt anew", -1, () -> Made.sealedThenDealtAnew().factor(1));
    }

    private void weightWhenHeIsNone() {
        checks.sentence("weight: -1 when he is none");
        ThresholdSeal x = Made.begun();
        checks.due("weight(1)", 715827862L, () -> x.weight(1));
        for (int i : NO_SIGNERS) {
            checks.due("weight(" + i + ")", -1, () -> x.weight(i));
        }
        for (int i : new int[] {0, 3, 5}) {
            checks.due("weight(" + i + "), no member", -1, () -> x.weight(i));
        }
        checks.due("weight(3), no member but a pair", -1, () -> Made.begunWithPairOf3().weight(3));
        checks.due("weight(1), of the session before alone", -1, () -> Made.begunAnewWithout1().weight(1));
        checks.due("weight(1), no session", -1, () -> Made.committed().weight(1));
        checks.due("weight(1), dealt anew", -1, () -> Made.sealedThenDealtAnew().weight(1));
    }

    private void challengeWhenThereIsNone() {
        checks.sentence("challenge: -1 when there is none");
        checks.due("nothing is dealt", -1, () -> Made.fresh().challenge());
        checks.due("no session", -1, () -> Made.committed().challenge());
        checks.due("a session", Made.CHALLENGE, () -> Made.begun().challenge());
        checks.due("a session that is sealed", Made.CHALLENGE, () -> Made.sealed().challenge());
        checks.due("dealt anew", -1, () -> Made.sealedThenDealtAnew().challenge());
    }

    private void membersWhenThereIsNone() {
        checks.sentence("members: 0 when there is none");
        checks.due("nothing is dealt", 0, () -> Made.fresh().members());
        checks.due("no session", 0, () -> Made.committed().members());
        checks.due("a session", 11, () -> Made.begun().members());
        checks.due("a session that is sealed", 11, () -> Made.sealed().members());
        checks.due("the next session", 14, () -> Made.begunAnewWithout1().members());
        checks.due("dealt anew", 0, () -> Made.sealedThenDealtAnew().members());
        ThresholdSeal x = Made.allCommitted(6, 1);
        for (int set = 1; set < 64; set++) {
            int members = set;
            x.begin(members, 1);
            checks.due("members() of " + set, members, x::members);
        }
    }

    private void takenFromNoneToAll() {
        checks.sentence("taken: the members whose shares are taken");
        checks.due("nothing is dealt", 0, () -> Made.fresh().taken());
        checks.due("no session", 0, () -> Made.committed().taken());
        checks.due("no share is made", 0, () -> Made.begun().taken());
        checks.due("no share is told", 0, () -> Made.signed().taken());
        checks.due("one is told that is right, another that is not", 8, () -> Made.mixed().taken());
        checks.due("all are told", 11, () -> Made.sealed().taken());
        checks.due("dealt anew", 0, () -> Made.sealedThenDealtAnew().taken());
    }

    private void blamedInThisSession() {
        checks.sentence("blamed: the members of whom a share that was not right was told in this session");
        checks.due("nothing is dealt", 0, () -> Made.fresh().blamed());
        checks.due("no session", 0, () -> Made.committed().blamed());
        checks.due("no share is told", 0, () -> Made.signed().blamed());
        checks.due("only right ones are told", 0, () -> Made.sealed().blamed());
        ThresholdSeal x = Made.mixed();
        checks.due("one is told that is not right", 2, x::blamed);
        x.relay(1, 1);
        checks.due("another by relay", 3, x::blamed);
        x.submit(2, Made.SHARE_2);
        x.relay(1, 0);
        checks.due("right ones are told since", 3, x::blamed);
        Checks.outcome(() -> Checks.bit(x.submit(4, 0)));
        checks.due("what was refused does not count", 3, x::blamed);
        x.commit(1, 10);
        x.commit(4, 30);
        x.begin(11, 99);
        checks.due("the next session", 0, x::blamed);
    }

    private void askingChangesNothing() {
        checks.sentence("Nothing beyond the state changes described");
        ThresholdSeal x = Made.mixed();
        ThresholdSeal twin = Made.mixed();
        long[] before = Checks.seen(x);
        x.check(Made.MESSAGE, Made.R, Made.SUM);
        x.check(1, 0, -1);
        x.recover(28);
        checks.yes("check and recover", Arrays.equals(before, Checks.seen(x)));
        checks.yes("what comes later", Checks.later(twin).equals(Checks.later(x)));
        ThresholdSeal sealed = Made.sealed();
        sealed.seal();
        sealed.holds(1, 5);
        sealed.holds(99, 0);
        checks.yes("seal and holds", Arrays.equals(Checks.seen(Made.sealed()), Checks.seen(sealed)));
    }
}
