import java.util.Random;

/** Long runs of calls, the same on the program and on the model, from fixed seeds. */
public final class ModelRunsTest {
    private static final int RUNS = 600;
    /** The document's limit for one object; looks count too. */
    private static final int MOST_CALLS = 512;
    /** The calls of one look at everything. */
    private static final int LOOK = 59;
    private static final long[] EDGES = {
        0, 1, -1, 2, SealModel.Q - 1, SealModel.Q, SealModel.Q + 1, SealModel.P - 1, SealModel.P,
        SealModel.P + 1, Long.MIN_VALUE, Long.MAX_VALUE, 1L << 32, (1L << 32) + 1
    };
    private static final int[] ODD_SIGNERS = {0, -1, 7, 8, 32, 33, 34, 65, Integer.MIN_VALUE, Integer.MAX_VALUE};
    private static final int[] ODD_SETS = {0, -1, 64, 128, 1 << 31, Integer.MAX_VALUE, -64, 1 | 1 << 31};

    private final Checks checks;
    private final Random random;
    private final ThresholdSeal x;
    private final SealModel model;
    private final String name;
    private int calls = 0;

    private ModelRunsTest(Checks checks, int run) {
        this.checks = checks;
        this.random = new Random(run);
        int signers = run % 10 == 9 ? pick(ODD_SIGNERS) : 1 + random.nextInt(6);
        int enough = run % 10 == 8 ? pick(ODD_SIGNERS) : 1 + random.nextInt(4);
        this.x = new ThresholdSeal(signers, enough);
        this.model = new SealModel(signers, enough);
        this.name = "run " + run + ", new ThresholdSeal(" + signers + ", " + enough + ")";
    }

    public static void main(String[] args) {
        Checks checks = new Checks();
        for (int run = 0; run < RUNS; run++) {
            new ModelRunsTest(checks, run).go();
        }
        checks.end("ModelRunsTest");
    }

    private void go() {
        if (random.nextInt(8) != 0) {
            deal();
        }
        while (calls + 1 + LOOK + LOOK <= MOST_CALLS) {
            step();
            if (random.nextInt(16) == 0) {
                look();
            }
        }
        look();
        checks.yes(name + " stays within the limit", calls <= MOST_CALLS);
    }

    private int pick(int[] row) {
        return row[random.nextInt(row.length)];
    }

    private int signer() {
        return random.nextInt(12) == 0 ? pick(ODD_SIGNERS) : 1 + random.nextInt(model.n);
    }

    private int set() {
        int kind = random.nextInt(12);
        if (kind == 0) {
            return pick(ODD_SETS);
        }
        return kind < 6 ? (1 << model.n) - 1 : random.nextInt(1 << model.n);
    }

    private long anyLong() {
        int kind = random.nextInt(3);
        if (kind == 0) {
            return EDGES[random.nextInt(EDGES.length)];
        }
        return kind == 1 ? random.nextLong() : random.nextInt(5);
    }

    /** Mostly 0, so that shares and seals come to be right. */
    private long more() {
        return random.nextInt(3) != 0 ? 0 : anyLong();
    }

    private void due(String call, long want, Checks.Call got) {
        calls++;
        checks.due(name + ", call " + calls + ": " + call, want, got);
    }

    private void step() {
        int kind = random.nextInt(100);
        if (kind < 2) {
            deal();
        } else if (kind < 24) {
            int i = signer();
            long word = anyLong();
            due("commit(" + i + ", " + word + ")", model.commit(i, word), () -> x.commit(i, word));
        } else if (kind < 32) {
            int members = set();
            long message = anyLong();
            due("begin(" + members + ", " + message + ")", model.begin(members, message),
                () -> x.begin(members, message));
        } else if (kind < 50) {
            int i = signer();
            due("sign(" + i + ")", model.sign(i), () -> x.sign(i));
        } else if (kind < 62) {
            submit();
        } else if (kind < 82) {
            int i = signer();
            long more = more();
            due("relay(" + i + ", " + more + ")", model.relay(i, more), () -> Checks.bit(x.relay(i, more)));
        } else if (kind < 88) {
            long message = random.nextBoolean() ? model.message() : anyLong();
            long more = more();
            due("holds(" + message + ", " + more + ")", model.holds(message, more),
                () -> Checks.bit(x.holds(message, more)));
        } else if (kind < 92) {
            int members = set();
            due("recover(" + members + ")", model.recover(members), () -> x.recover(members));
        } else if (kind < 96) {
            check();
        } else {
            due("seal()", model.seal(), x::seal);
        }
    }

    private void deal() {
        long word = anyLong();
        due("deal(" + word + ")", model.deal(word), () -> x.deal(word));
    }

    private void submit() {
        int i = signer();
        long z = model.inSession(i) && random.nextInt(4) == 0 ? model.rightShare(i) : anyLong();
        due("submit(" + i + ", " + z + ")", model.submit(i, z), () -> Checks.bit(x.submit(i, z)));
    }

    private void check() {
        boolean sealed = model.seal() >= 0 && random.nextInt(4) != 0;
        long message = sealed ? model.message() : anyLong();
        long r = sealed ? model.product() : anyLong();
        long z = sealed ? model.seal() : anyLong();
        due("check(" + message + ", " + r + ", " + z + ")", model.check(message, r, z),
            () -> Checks.bit(x.check(message, r, z)));
    }

    private void look() {
        for (int i = -1; i <= 7; i++) {
            int signer = i;
            due("key(" + i + ")", model.key(i), () -> x.key(signer));
            due("secret(" + i + ")", model.secret(i), () -> x.secret(signer));
            due("commitment(" + i + ", false)", model.commitment(i, false), () -> x.commitment(signer, false));
            due("commitment(" + i + ", true)", model.commitment(i, true), () -> x.commitment(signer, true));
            due("factor(" + i + ")", model.factor(i), () -> x.factor(signer));
            due("weight(" + i + ")", model.weight(i), () -> x.weight(signer));
        }
        due("challenge()", model.challenge(), x::challenge);
        due("members()", model.members(), x::members);
        due("taken()", model.taken(), x::taken);
        due("blamed()", model.blamed(), x::blamed);
        due("seal()", model.seal(), x::seal);
    }
}
