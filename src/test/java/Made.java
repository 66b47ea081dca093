/**
 * Objects to begin with: 5 signers, of whom 3 are enough, at each point on the way to a seal. The
 * numbers are those of ../shared/tests.
 */
final class Made {
    static final long WHOLE_SECRET = 948448387L;
    static final long Y = 598674767L;
    static final long MESSAGE = 99;
    static final int MEMBERS = 11;
    static final long R = 870376903L;
    static final long CHALLENGE = 175958055L;
    static final long SHARE_1 = 578878278L;
    static final long SHARE_2 = 738970728L;
    static final long SHARE_4 = 352979197L;
    static final long SUM = 597086414L;

    private Made() {
    }

    static ThresholdSeal fresh() {
        return new ThresholdSeal(5, 3);
    }

    static ThresholdSeal dealt() {
        ThresholdSeal x = fresh();
        x.deal(12345);
        return x;
    }

    /** Signers 1, 2 and 4 have open pairs. */
    static ThresholdSeal committed() {
        ThresholdSeal x = dealt();
        x.commit(1, 10);
        x.commit(2, 20);
        x.commit(4, 30);
        return x;
    }

    /** Signers 1, 2 and 4 are members of a session. */
    static ThresholdSeal begun() {
        ThresholdSeal x = committed();
        x.begin(MEMBERS, MESSAGE);
        return x;
    }

    static ThresholdSeal signed() {
        ThresholdSeal x = begun();
        x.sign(1);
        x.sign(2);
        x.sign(4);
        return x;
    }

    static ThresholdSeal sealed() {
        ThresholdSeal x = signed();
        x.relay(1, 0);
        x.relay(2, 0);
        x.relay(4, 0);
        return x;
    }

    /** A member made his share, another was blamed, a third's share is taken: no state is empty. */
    static ThresholdSeal mixed() {
        ThresholdSeal x = begun();
        x.sign(1);
        x.submit(2, 5);
        x.sign(4);
        x.relay(4, 0);
        return x;
    }

    static ThresholdSeal begunWithPairOf3() {
        ThresholdSeal x = begun();
        x.commit(3, 1);
        return x;
    }

    /** Signer 1 still has the pair that he had in the first session. */
    static ThresholdSeal begunAnewWithout1() {
        ThresholdSeal x = begunWithPairOf3();
        x.begin(14, MESSAGE);
        return x;
    }

    /** Member 1 has another pair now, member 2 has the same one anew. */
    static ThresholdSeal begunAndCommittedAnew() {
        ThresholdSeal x = begun();
        x.commit(1, 11);
        x.commit(2, 20);
        return x;
    }

    static ThresholdSeal signedAndCommittedAnew() {
        ThresholdSeal x = signed();
        x.commit(1, 10);
        return x;
    }

    /** Member 1 made his share in the session before, which was the same in all it was told. */
    static ThresholdSeal signedThenBegunAnew() {
        ThresholdSeal x = begun();
        x.sign(1);
        x.commit(1, 10);
        x.begin(MEMBERS, MESSAGE);
        return x;
    }

    static ThresholdSeal sealedThenDealtAnew() {
        ThresholdSeal x = sealed();
        x.commit(3, 1);
        x.deal(12345);
        return x;
    }

    /** All signers of an object have open pairs. */
    static ThresholdSeal allCommitted(int signers, int enough) {
        ThresholdSeal x = new ThresholdSeal(signers, enough);
        x.deal(7);
        for (int i = 1; i <= signers; i++) {
            x.commit(i, 100 + i);
        }
        return x;
    }
}
