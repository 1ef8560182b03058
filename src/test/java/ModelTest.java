import java.util.Random;

/** Runs of 512 calls, chosen by fixed seeds, on the class and on the model: the answers must be the same. */
public final class ModelTest {
    private static final int RUNS = 1500;
    private static final int CALLS = 512;
    private static final int THREW = Integer.MIN_VALUE + 7;
    private static final Checks CHECKS = new Checks();

    private final Random random;
    private final LendThreads x = new LendThreads();
    private final Model model = new Model();
    private final String name;
    // Some runs want few copies, so that works meet; some are told all before the first turn.
    private final int copies;
    private final int steps;
    private int told;

    private ModelTest(int seed) {
        random = new Random(seed);
        name = "run " + seed + ", ";
        copies = 1 + random.nextInt(10);
        steps = 1 + random.nextInt(10);
        told = random.nextInt(200);
    }

    /** Mostly a number from 0 to below the bound, at times one beyond it. */
    private int near(int bound) {
        int kind = random.nextInt(40);
        if (kind == 0) {
            return -1 - random.nextInt(3);
        }
        if (kind == 1) {
            return bound + random.nextInt(3);
        }
        if (kind == 2) {
            return random.nextInt();
        }
        return random.nextInt(bound);
    }

    private static int valueOrThrew(LendThreads x, int copy) {
        try {
            return x.value(copy);
        } catch (IndexOutOfBoundsException e) {
            return THREW;
        }
    }

    private static int valueOrThrew(Model model, int copy) {
        try {
            return model.value(copy);
        } catch (IndexOutOfBoundsException e) {
            return THREW;
        }
    }

    private void tell() {
        int work = near(12);
        int step = near(steps);
        int what = near(random.nextInt(10) == 0 ? 12 : copies);
        switch (random.nextInt(8)) {
            case 0:
                int fails = random.nextInt(3) == 0 ? near(steps) : -1;
                CHECKS.due(name + "work(" + steps + ", " + fails + ")", model.work(steps, fails), x.work(steps, fails));
                break;
            case 1:
                int other = near(12);
                CHECKS.due(name + "wants a message", model.wants(work, step, true, other),
                        x.wants(work, step, true, other));
                break;
            case 2:
            case 3:
                int to = near(12);
                CHECKS.due(name + "sends", model.sends(work, step, to), x.sends(work, step, to));
                break;
            default:
                CHECKS.due(name + "wants a copy", model.wants(work, step, false, what),
                        x.wants(work, step, false, what));
        }
    }

    private void go() {
        int work = near(12);
        switch (random.nextInt(60)) {
            case 0:
                CHECKS.due(name + "run()", model.run(), x.run());
                break;
            case 1:
            case 2:
                CHECKS.due(name + "ring()", model.ring(), x.ring());
                break;
            case 3:
            case 4:
                CHECKS.due(name + "interrupt(" + work + ")", model.interrupt(work), x.interrupt(work));
                break;
            case 5:
            case 6:
            case 7:
                CHECKS.due(name + "again(" + work + ")", model.again(work), x.again(work));
                break;
            case 8:
                if (random.nextInt(10) == 0) {
                    CHECKS.due(name + "close()", model.close(), x.close());
                }
                break;
            case 9:
                int count = near(random.nextBoolean() ? 5 : 101);
                CHECKS.due(name + "loses(" + count + ")", model.loses(count), x.loses(count));
                break;
            default:
                CHECKS.due(name + "turn(" + work + ")", model.turn(work), x.turn(work));
        }
    }

    private void look() {
        int one = near(12);
        int two = near(12);
        switch (random.nextInt(6)) {
            case 0:
                int what = near(5);
                CHECKS.due(name + "state(" + one + ", " + what + ")", model.state(one, what), x.state(one, what));
                break;
            case 1:
                CHECKS.due(name + "has(" + one + ")", model.has(one), x.has(one));
                break;
            case 2:
                CHECKS.due(name + "line(" + one + ", " + two + ")", model.line(one, two), x.line(one, two));
                break;
            case 3:
                CHECKS.due(name + "value(" + one + ")", valueOrThrew(model, one), valueOrThrew(x, one));
                break;
            case 4:
                int i = near(301);
                CHECKS.due(name + "log(" + i + ")", model.log(i), x.log(i));
                break;
            default:
                CHECKS.due(name + "mail(" + one + ", " + two + ")", model.mail(one, two), x.mail(one, two));
        }
    }

    private void lookAtAll() {
        for (int i = -1; i <= 12; i++) {
            for (int j = -1; j <= 12; j++) {
                CHECKS.due(name + "in the end state", model.state(i, j), x.state(i, j));
                CHECKS.due(name + "in the end line", model.line(i, j), x.line(i, j));
                CHECKS.due(name + "in the end mail", model.mail(i, j), x.mail(i, j));
            }
            CHECKS.due(name + "in the end has", model.has(i), x.has(i));
            CHECKS.due(name + "in the end value", valueOrThrew(model, i), valueOrThrew(x, i));
        }
        for (int i = -1; i <= 301; i++) {
            CHECKS.due(name + "in the end log", model.log(i), x.log(i));
        }
    }

    private void calls() {
        for (int call = 0; call < CALLS; call++) {
            if (told > 0 && call < told || random.nextInt(30) == 0) {
                tell();
            } else if (random.nextInt(3) > 0) {
                go();
            } else {
                look();
            }
        }
        lookAtAll();
    }

    public static void main(String[] args) {
        for (int seed = 0; seed < RUNS; seed++) {
            new ModelTest(seed).calls();
        }
        CHECKS.end();
    }
}
