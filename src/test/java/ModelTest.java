import java.util.Random;

/**
 * Runs of 512 calls, chosen by fixed seeds, on the class and on the model: the answers must be the same. What an
 * object answers behind its 512th call is free, so every other run is shorter and then looks at all there is.
 */
public final class ModelTest {
    private static final int RUNS = 1500;
    private static final int CALLS = 512;
    // What lookAtAll needs at most: a work stands in one line at a time, so the ten lines hold twelve works.
    private static final int LOOKS = 12 * 5 + 12 * 11 + 10 * 2 + 10 + 12 + 50;
    private static final int THREW = Integer.MIN_VALUE + 7;
    private static final Checks CHECKS = new Checks();

    private final Random random;
    private final LendThreads x = new LendThreads();
    private final Model model = new Model();
    private final String name;
    // Some runs want few copies, so that works meet; some are told all before the first turn.
    private final int copies;
    private final int steps;
    private final int told;
    private final int calls;

    private ModelTest(int seed, int calls) {
        random = new Random(seed);
        name = "run " + seed + ", ";
        copies = 1 + random.nextInt(10);
        steps = 1 + random.nextInt(10);
        told = random.nextInt(calls * 2 / 5);
        this.calls = calls;
    }

    /** Mostly a number from 0 to below the bound, at times one beyond it. */
    private int near(int bound) {
        int kind = random.nextInt(40);
        if (kind == 0) {
            return -1 - random.nextInt(3);
        }
        if (kind == 1) {
            return bound + random.nextInt(3);
        }
        if (kind == 2) {
            return random.nextInt();
        }
        return random.nextInt(bound);
    }

    private static int valueOrThrew(LendThreads x, int copy) {
        try {
            return x.value(copy);
        } catch (IndexOutOfBoundsException e) {
            return THREW;
        }
    }

    private static int valueOrThrew(Model model, int copy) {
        try {
            return model.value(copy);
        } catch (IndexOutOfBoundsException e) {
            return THREW;
        }
    }

    private void tell() {
        int work = near(12);
        int step = near(steps);
        int what = near(random.nextInt(10) == 0 ? 12 : copies);
        switch (random.nextInt(8)) {
            case 0:
                int fails = random.nextInt(3) == 0 ? near(steps) : -1;
                CHECKS.due(name + "work(" + steps + ", " + fails + ")", model.work(steps, fails), x.work(steps, fails));
                break;
            case 1:
                int other = near(12);
                CHECKS.due(name + "wants a message", model.wants(work, step, true, other),
                        x.wants(work, step, true, other));
                break;
            case 2:
            case 3:
                int to = near(12);
                CHECKS.due(name + "sends", model.sends(work, step, to), x.sends(work, step, to));
                break;
            default:
                CHECKS.due(name + "wants a copy", model.wants(work, step, false, what),
                        x.wants(work, step, false, what));
        }
    }

    private void go() {
        int work = near(12);
        switch (random.nextInt(60)) {
            case 0:
                CHECKS.due(name + "run()", model.run(), x.run());
                break;
            case 1:
            case 2:
                CHECKS.due(name + "ring()", model.ring(), x.ring());
                break;
            case 3:
            case 4:
                CHECKS.due(name + "interrupt(" + work + ")", model.interrupt(work), x.interrupt(work));
                break;
            case 5:
            case 6:
            case 7:
                CHECKS.due(name + "again(" + work + ")", model.again(work), x.again(work));
                break;
            case 8:
                if (random.nextInt(10) == 0) {
                    CHECKS.due(name + "close()", model.close(), x.close());
                }
                break;
            case 9:
                int count = near(random.nextBoolean() ? 5 : 101);
                CHECKS.due(name + "loses(" + count + ")", model.loses(count), x.loses(count));
                break;
            default:
                CHECKS.due(name + "turn(" + work + ")", model.turn(work), x.turn(work));
        }
    }

    private void look() {
        int one = near(12);
        int two = near(12);
        switch (random.nextInt(6)) {
            case 0:
                int what = near(5);
                CHECKS.due(name + "state(" + one + ", " + what + ")", model.state(one, what), x.state(one, what));
                break;
            case 1:
                CHECKS.due(name + "has(" + one + ")", model.has(one), x.has(one));
                break;
            case 2:
                CHECKS.due(name + "line(" + one + ", " + two + ")", model.line(one, two), x.line(one, two));
                break;
            case 3:
                CHECKS.due(name + "value(" + one + ")", valueOrThrew(model, one), valueOrThrew(x, one));
                break;
            case 4:
                int i = near(301);
                CHECKS.due(name + "log(" + i + ")", model.log(i), x.log(i));
                break;
            default:
                CHECKS.due(name + "mail(" + one + ", " + two + ")", model.mail(one, two), x.mail(one, two));
        }
    }

    private void lookAtAll() {
        for (int i = 0; i < 12; i++) {
            for (int j = 0; j < 12; j++) {
                if (j < 5) {
                    CHECKS.due(name + "in the end state", model.state(i, j), x.state(i, j));
                }
                if (i != j) {
                    CHECKS.due(name + "in the end mail", model.mail(i, j), x.mail(i, j));
                }
            }
        }
        for (int copy = 0; copy < 10; copy++) {
            CHECKS.due(name + "in the end has", model.has(copy), x.has(copy));
            CHECKS.due(name + "in the end value", model.value(copy), x.value(copy));
            for (int i = 0; i == 0 || model.line(copy, i - 1) != LendThreads.NONE; i++) {
                CHECKS.due(name + "in the end line", model.line(copy, i), x.line(copy, i));
            }
        }
        for (int i = 0; i < 50; i++) {
            CHECKS.due(name + "in the end log", model.log(i), x.log(i));
        }
    }

    private void makeCalls() {
        for (int call = 0; call < calls; call++) {
            if (call < told || random.nextInt(30) == 0) {
                tell();
            } else if (random.nextInt(3) > 0) {
                go();
            } else {
                look();
            }
        }
    }

    public static void main(String[] args) {
        for (int seed = 0; seed < RUNS; seed++) {
            new ModelTest(seed, CALLS).makeCalls();
            ModelTest shorter = new ModelTest(RUNS + seed, CALLS - LOOKS);
            shorter.makeCalls();
            shorter.lookAtAll();
        }
        CHECKS.end();
    }
}
