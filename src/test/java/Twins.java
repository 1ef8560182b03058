import java.util.ArrayList;
import java.util.List;
import java.util.function.IntUnaryOperator;
import java.util.function.Supplier;
import java.util.function.ToIntFunction;

/**
 * Two objects with the same past, one of which has a refused call more: what can be seen of them, and what they
 * answer to the same calls later, must be the same. No twin is given more than 512 calls.
 */
final class Twins {
    private final Checks checks;
    private final Supplier<LendThreads> past;

    Twins(Checks checks, Supplier<LendThreads> past) {
        this.checks = checks;
        this.past = past;
    }

    void refused(String what, int answer, ToIntFunction<LendThreads> call) {
        checks.due(what, answer, call.applyAsInt(past.get()));
        same(what + " changed what is seen at once", picture(past.get()), picture(behind(call)));
        same(what + " changed who waits", interruptAll(past.get()), interruptAll(behind(call)));
        same(what + " changed what is seen later", goOn(past.get()), goOn(behind(call)));
    }

    private LendThreads behind(ToIntFunction<LendThreads> call) {
        LendThreads x = past.get();
        call.applyAsInt(x);
        return x;
    }

    /** The same of value, which is refused by an exception. */
    void valueRefused(String what, int copy) {
        refused(what, 1, x -> {
            try {
                x.value(copy);
                return 0;
            } catch (IndexOutOfBoundsException e) {
                return 1;
            }
        });
    }

    private void same(String what, List<Integer> want, List<Integer> got) {
        checks.yes("not so: " + what + ": " + want + " became " + got, want.equals(got));
    }

    /** All that can be seen, in some 250 calls. */
    private static List<Integer> picture(LendThreads x) {
        List<Integer> seen = new ArrayList<>();
        for (int i = 0; i < 12; i++) {
            for (int j = 0; j < 12; j++) {
                if (j < 5) {
                    seen.add(x.state(i, j));
                }
                if (i != j) {
                    seen.add(x.mail(i, j));
                }
            }
        }
        for (int copy = 0; copy < 10; copy++) {
            seen.add(x.has(copy));
            seen.add(x.value(copy));
            int line = copy;
            addUntilNone(seen, i -> x.line(line, i));
        }
        addUntilNone(seen, x::log);
        return seen;
    }

    private static void addUntilNone(List<Integer> seen, IntUnaryOperator rows) {
        int row = rows.applyAsInt(0);
        for (int i = 1; row != LendThreads.NONE && i <= 300; i++) {
            seen.add(row);
            row = rows.applyAsInt(i);
        }
        seen.add(row);
    }

    /** Without a turn before it, since a turn would cover up what the latest one did. */
    private static List<Integer> interruptAll(LendThreads x) {
        List<Integer> seen = new ArrayList<>();
        for (int i = 0; i < 12; i++) {
            seen.add(x.interrupt(i));
        }
        beginAllAgain(seen, x);
        seen.add(x.close());
        return seen;
    }

    private static void beginAllAgain(List<Integer> seen, LendThreads x) {
        for (int i = 0; i < 12; i++) {
            seen.add(x.again(i));
        }
    }

    /** Calls that bring to light what can't be looked at: what was told, what is to be lost, how often begun again. */
    private static List<Integer> goOn(LendThreads x) {
        List<Integer> seen = new ArrayList<>();
        seen.add(x.work(2, -1));
        seen.add(x.work(2, -1));
        for (int i = 0; i < 12; i++) {
            seen.add(x.sends(i, 0, i == 0 ? 1 : 0));
            seen.add(x.wants(i, 0, false, 9));
        }
        seen.add(x.run());
        seen.add(x.ring());
        seen.addAll(picture(x));
        beginAllAgain(seen, x);
        seen.add(x.run());
        seen.addAll(interruptAll(x));
        return seen;
    }
}
