/** Promises 1 to 5: a new object, and what works are told before their turns. */
public final class TellingTest {
    private static final int[] WILD = {Integer.MIN_VALUE, -1000, -2, 1000, Integer.MAX_VALUE};
    private static final Checks CHECKS = new Checks();

    private static void due(String call, int want, int got) {
        CHECKS.due(call, want, got);
    }

    /** Promise 1: "No works; all copies are free." */
    private static void aNewObject() {
        LendThreads x = new LendThreads();
        for (int i = -1; i <= 12; i++) {
            due("1: state of no work", LendThreads.NONE, x.state(i, 0));
            due("1: turn of no work", 0, x.turn(i));
            due("1: a copy is free", LendThreads.NONE, x.has(i));
            due("1: a line is empty", LendThreads.NONE, x.line(i, 0));
        }
        for (int copy = 0; copy < 10; copy++) {
            due("1: value at first", 0, x.value(copy));
        }
        due("1: log", LendThreads.NONE, x.log(0));
        due("1: run", 0, x.run());
        due("1: ring", LendThreads.NONE, x.ring());
        due("1: close", 0, x.close());
        due("1: mail", LendThreads.RANGE, x.mail(0, 1));
        due("1: another object has its own works", 0, Scenes.withWorks(0, 1).work(1, -1));
        due("1: the first work", 0, x.work(1, -1));
    }

    /**
     * Promise 2: "A work more, of so many steps, that FAILS at a step (-1: at none): its number. RANGE (steps 1 ..
     * 10, the step -1 or one of its own), FULL."
     */
    private static void work() {
        LendThreads x = new LendThreads();
        due("2: no steps", LendThreads.RANGE, x.work(0, -1));
        due("2: eleven steps", LendThreads.RANGE, x.work(11, -1));
        due("2: fails below -1", LendThreads.RANGE, x.work(5, -2));
        due("2: fails behind its last step", LendThreads.RANGE, x.work(5, 5));
        for (int wild : WILD) {
            due("2: wild steps", LendThreads.RANGE, x.work(wild, -1));
            due("2: wild failing", LendThreads.RANGE, x.work(10, wild));
        }
        due("2: one step", 0, x.work(1, 0));
        due("2: ten steps", 1, x.work(10, 9));
        for (int i = 2; i < 12; i++) {
            due("2: its number", i, x.work(3, -1));
        }
        due("2: a thirteenth", LendThreads.FULL, x.work(3, -1));
        due("2: RANGE goes before FULL", LendThreads.RANGE, x.work(0, -1));
        due("2: it has as many steps as were told", LendThreads.NONE, x.wants(0, 1, false, 0));
        due("2: its last step", 1, x.wants(1, 9, false, 0));
        due("2: no thirteenth was made", LendThreads.NONE, x.state(12, 0));
    }

    /**
     * Promise 3: "A step of a work wants a copy, or (message) a message from a work, behind what it wants: how many
     * it has. NONE (the work, the step); RANGE (the copy, the other work, itself); STATE if the work has had a turn;
     * FULL."
     */
    private static void wants() {
        LendThreads x = Scenes.withWorks(3, 2);
        due("3: no such work", LendThreads.NONE, x.wants(3, 0, false, 0));
        due("3: a work below 0", LendThreads.NONE, x.wants(-1, 0, false, 0));
        due("3: no such step", LendThreads.NONE, x.wants(0, 2, false, 0));
        due("3: a step below 0", LendThreads.NONE, x.wants(0, -1, false, 0));
        due("3: no such copy", LendThreads.RANGE, x.wants(0, 0, false, 10));
        due("3: a copy below 0", LendThreads.RANGE, x.wants(0, 0, false, -1));
        due("3: no such other work", LendThreads.RANGE, x.wants(0, 0, true, 3));
        due("3: another work below 0", LendThreads.RANGE, x.wants(0, 0, true, -1));
        due("3: a message from itself", LendThreads.RANGE, x.wants(1, 0, true, 1));
        due("3: a copy of its own number is no message", 1, x.wants(1, 0, false, 1));
        for (int wild : WILD) {
            due("3: wild work", LendThreads.NONE, x.wants(wild, 0, false, 0));
            due("3: wild step", LendThreads.NONE, x.wants(0, wild, false, 0));
            due("3: wild copy", LendThreads.RANGE, x.wants(0, 0, false, wild));
            due("3: wild other work", LendThreads.RANGE, x.wants(0, 0, true, wild));
        }
        due("3: NONE goes before RANGE", LendThreads.NONE, x.wants(0, 2, false, 10));
        wantsUpToFour(x);
        x.turn(0);
        due("3: it had a turn", LendThreads.STATE, x.wants(0, 1, false, 0));
        due("3: STATE goes before FULL", LendThreads.STATE, x.wants(0, 0, false, 0));
        due("3: RANGE goes before STATE", LendThreads.RANGE, x.wants(0, 0, false, 10));
        due("3: NONE goes before STATE", LendThreads.NONE, x.wants(0, 2, false, 0));
        due("3: another one had no turn", 2, x.wants(1, 0, true, 0));
    }

    /** Promise 3: "how many it has", "FULL" */
    private static void wantsUpToFour(LendThreads x) {
        due("3: the first", 1, x.wants(0, 0, false, 9));
        due("3: the second", 2, x.wants(0, 0, true, 2));
        due("3: the same again", 3, x.wants(0, 0, false, 9));
        due("3: the fourth", 4, x.wants(0, 0, false, 0));
        due("3: a fifth", LendThreads.FULL, x.wants(0, 0, false, 1));
        due("3: RANGE goes before FULL", LendThreads.RANGE, x.wants(0, 0, true, 0));
        due("3: each step has its own", 1, x.wants(0, 1, false, 1));
    }

    /** Promise 3: "behind what it wants" */
    private static void wantsInTheOrderTold() {
        LendThreads x = Scenes.withWorks(1, 1);
        x.wants(0, 0, false, 5);
        x.wants(0, 0, false, 2);
        x.turn(0);
        due("3: the first that was told", 0, x.has(5));
        due("3: not yet the second", LendThreads.NONE, x.has(2));
    }

    /** Promises 3 and 4: "STATE if the work has had a turn", in a run or before it began again */
    private static void wantsAfterOthers() {
        LendThreads x = Scenes.withWorks(2, 1);
        x.run();
        due("3: a turn in run is a turn", LendThreads.STATE, x.wants(0, 0, false, 0));
        LendThreads y = Scenes.withWorks(2, 1);
        y.wants(0, 0, true, 1);
        y.turn(0);
        y.interrupt(0);
        y.again(0);
        due("3: begun again, it has had a turn all the same", LendThreads.STATE, y.wants(0, 0, false, 0));
        due("4: likewise", LendThreads.STATE, y.sends(0, 0, 1));
    }

    /** Promise 4: "A step sends a message to another work: how many it sends. NONE, RANGE, STATE, FULL likewise." */
    private static void sends() {
        LendThreads x = Scenes.withWorks(3, 2);
        due("4: no such work", LendThreads.NONE, x.sends(3, 0, 0));
        due("4: a work below 0", LendThreads.NONE, x.sends(-1, 0, 0));
        due("4: no such step", LendThreads.NONE, x.sends(0, 2, 1));
        due("4: a step below 0", LendThreads.NONE, x.sends(0, -1, 1));
        due("4: no such receiver", LendThreads.RANGE, x.sends(0, 0, 3));
        due("4: a receiver below 0", LendThreads.RANGE, x.sends(0, 0, -1));
        due("4: itself", LendThreads.RANGE, x.sends(2, 0, 2));
        for (int wild : WILD) {
            due("4: wild work", LendThreads.NONE, x.sends(wild, 0, 0));
            due("4: wild step", LendThreads.NONE, x.sends(0, wild, 1));
            due("4: wild receiver", LendThreads.RANGE, x.sends(0, 0, wild));
        }
        due("4: the first", 1, x.sends(0, 0, 1));
        due("4: the second, to the same", 2, x.sends(0, 0, 1));
        due("4: a third", LendThreads.FULL, x.sends(0, 0, 2));
        due("4: RANGE goes before FULL", LendThreads.RANGE, x.sends(0, 0, 0));
        due("4: each step has its own", 1, x.sends(0, 1, 2));
        x.turn(0);
        due("4: both came", 2, x.mail(0, 1));
        due("4: not yet the next step's", 0, x.mail(0, 2));
        due("4: it had a turn", LendThreads.STATE, x.sends(0, 1, 1));
        due("4: STATE goes before FULL", LendThreads.STATE, x.sends(0, 0, 1));
        due("4: RANGE goes before STATE", LendThreads.RANGE, x.sends(0, 0, 0));
        x.turn(0);
        due("4: the next step's came", 1, x.mail(0, 2));
    }

    /** Promise 5: "So many messages that are sent next, 0 .. 100, are LOST (in place of what was told): 1; RANGE." */
    private static void loses() {
        LendThreads x = Scenes.withWorks(3, 3);
        due("5: below 0", LendThreads.RANGE, x.loses(-1));
        due("5: above 100", LendThreads.RANGE, x.loses(101));
        for (int wild : WILD) {
            due("5: wild", LendThreads.RANGE, x.loses(wild));
        }
        due("5: 100", 1, x.loses(100));
        due("5: 0", 1, x.loses(0));
        due("5: 3", 1, x.loses(3));
        due("5: 1 in place of 3", 1, x.loses(1));
        due("5: RANGE changes nothing", LendThreads.RANGE, x.loses(101));
        x.sends(0, 0, 2);
        x.sends(0, 0, 1);
        x.sends(0, 1, 2);
        x.turn(0);
        due("5: the first that is sent is lost", 0, x.mail(0, 2));
        due("5: the second is not", 1, x.mail(0, 1));
        x.turn(0);
        due("5: nor is the third", 1, x.mail(0, 2));
    }

    /** Promise 5: "So many messages that are sent next", whoever sends them */
    private static void losesCountsOverAllSenders() {
        LendThreads x = Scenes.withWorks(3, 1);
        x.sends(0, 0, 2);
        x.sends(1, 0, 2);
        x.sends(2, 0, 1);
        x.loses(2);
        x.run();
        due("5: the first sender's", 0, x.mail(0, 2));
        due("5: the second sender's", 0, x.mail(1, 2));
        due("5: the third sender's", 1, x.mail(2, 1));
        LendThreads y = Scenes.withWorks(2, 1);
        y.sends(0, 0, 1);
        y.loses(5);
        y.loses(0);
        y.run();
        due("5: 0 in place of 5", 1, y.mail(0, 1));
    }

    public static void main(String[] args) {
        aNewObject();
        work();
        wants();
        wantsInTheOrderTold();
        wantsAfterOthers();
        sends();
        loses();
        losesCountsOverAllSenders();
        CHECKS.end();
    }
}
