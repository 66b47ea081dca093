import java.util.ArrayList;
import java.util.Arrays;
import java.util.List;
import java.util.function.Supplier;
import java.util.function.ToLongFunction;

/** Counts and prints answers that are not due; shared by the tests of the project. */
final class Checks {
    interface Call {
        long answer();
    }

    /** What a call did, as one number: its answer, or one of these when it threw. */
    static final long ILLEGAL_ARGUMENT = Long.MIN_VALUE;
    static final long ILLEGAL_STATE = Long.MIN_VALUE + 1;
    static final long OTHER_THROW = Long.MIN_VALUE + 2;

    private String sentence = "";
    private int wrong = 0;
    private int asked = 0;

    /** The sentence of the document that the next calls are about. */
    void sentence(String words) {
        sentence = words + ": ";
    }

    static long outcome(Call call) {
        try {
            return call.answer();
        } catch (RuntimeException e) {
            // The class itself, for a subclass would reach the caller as something else.
            if (e.getClass() == IllegalArgumentException.class) {
                return ILLEGAL_ARGUMENT;
            }
            return e.getClass() == IllegalStateException.class ? ILLEGAL_STATE : OTHER_THROW;
        }
    }

    static long bit(boolean b) {
        return b ? 1 : 0;
    }

    static String words(long outcome) {
        if (outcome == ILLEGAL_ARGUMENT) {
            return "throws.IllegalArgumentException";
        }
        if (outcome == ILLEGAL_STATE) {
            return "throws.IllegalStateException";
        }
        return outcome == OTHER_THROW ? "throws something else" : Long.toString(outcome);
    }

    void due(String what, long want, Call call) {
        long got = outcome(call);
        asked++;
        if (got != want) {
            wrong++;
            System.out.println(sentence + what + ": answered " + words(got) + ", due is " + words(want));
        }
    }

    void yes(String what, boolean holds) {
        due(what, 1, () -> bit(holds));
    }

    /**
     * The call throws what is due, nothing that can be seen of the object changes, and it goes on
     * as a twin that never had the call. Each such call has an object of its own, for looking at
     * everything takes many of the 512 calls.
     */
    private void refused(String what, Supplier<ThresholdSeal> made, long want, ToLongFunction<ThresholdSeal> call) {
        ThresholdSeal x = made.get();
        ThresholdSeal twin = made.get();
        long[] before = seen(x);
        due(what, want, () -> call.applyAsLong(x));
        yes(what + " changes nothing", Arrays.equals(before, seen(x)));
        yes(what + " changes nothing that comes later", later(twin).equals(later(x)));
    }

    /** What the rest of the session answers, and one more session of all signers. */
    static List<Long> later(ThresholdSeal x) {
        List<Long> row = new ArrayList<>();
        finishSession(x, row);
        for (int i = 1; i <= 6; i++) {
            int signer = i;
            row.add(outcome(() -> x.commit(signer, 1000 + signer)));
        }
        row.add(outcome(() -> x.begin(31, 5)));
        finishSession(x, row);
        return row;
    }

    private static void finishSession(ThresholdSeal x, List<Long> row) {
        for (int i = 1; i <= 6; i++) {
            int signer = i;
            row.add(outcome(() -> x.sign(signer)));
            row.add(outcome(() -> bit(x.relay(signer, 0))));
        }
        row.add(outcome(x::seal));
        row.add(outcome(() -> bit(x.holds(Made.MESSAGE, 0))));
        row.add((long) x.taken());
        row.add((long) x.blamed());
    }

    void badArgument(String what, Supplier<ThresholdSeal> made, ToLongFunction<ThresholdSeal> call) {
        refused(what, made, ILLEGAL_ARGUMENT, call);
    }

    void badState(String what, Supplier<ThresholdSeal> made, ToLongFunction<ThresholdSeal> call) {
        refused(what, made, ILLEGAL_STATE, call);
    }

    /** Everything that calls without effect tell of an object. */
    static long[] seen(ThresholdSeal x) {
        long[] row = new long[64];
        int at = 0;
        for (int i = -1; i <= 7; i++) {
            row[at++] = x.key(i);
            row[at++] = x.secret(i);
            row[at++] = x.commitment(i, false);
            row[at++] = x.commitment(i, true);
            row[at++] = x.factor(i);
            row[at++] = x.weight(i);
        }
        row[at++] = x.challenge();
        row[at++] = x.members();
        row[at++] = x.taken();
        row[at++] = x.blamed();
        row[at++] = outcome(x::seal);
        return row;
    }

    void end(String test) {
        System.out.println(test + ": " + asked + " asked, " + wrong + " wrong");
        if (wrong != 0) {
            System.exit(1);
        }
    }
}
