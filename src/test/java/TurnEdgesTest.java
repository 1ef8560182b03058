/** Promises 6 and 7, the edges that they name. */
public final class TurnEdgesTest {
    private static final Checks CHECKS = new Checks();
    private static final Twins EMPTY = new Twins(CHECKS, Scenes::empty);
    private static final Twins FULL = new Twins(CHECKS, Scenes::full);
    private static final Twins MIDDLE = new Twins(CHECKS, Scenes::middle);
    private static final Twins CLOSED = new Twins(CHECKS, Scenes::closed);

    private static void due(String call, int want, int got) {
        CHECKS.due(call, want, got);
    }

    /** Promise 6, "0 nothing: .. there is none such" */
    private static void turnOfNoneSuch() {
        LendThreads x = Scenes.withWorks(2, 1);
        due("6: below the first", 0, x.turn(-1));
        due("6: the first", 2, x.turn(0));
        due("6: the last", 2, x.turn(1));
        due("6: behind the last", 0, x.turn(2));
        LendThreads y = Scenes.full();
        due("6: the twelfth", 2, y.turn(11));
        due("6: there is no thirteenth", 0, y.turn(12));
        due("6: the least int", 0, y.turn(Integer.MIN_VALUE));
        due("6: the greatest int", 0, y.turn(Integer.MAX_VALUE));
        CHECKS.log("6: one act", y, 1100);
        EMPTY.refused("6: turn(0) of a new object", 0, z -> z.turn(0));
        FULL.refused("6: turn(-1)", 0, z -> z.turn(-1));
        FULL.refused("6: turn(12)", 0, z -> z.turn(12));
        MIDDLE.refused("6: turn(10) of ten works", 0, z -> z.turn(10));
    }

    /** Promise 6, "0 nothing: it is over": DONE, FAILED, ABORTED, INTERRUPTED and CLOSED. */
    private static void turnOfOneThatIsOver() {
        int[] over = {Scenes.DONE, Scenes.FAILED, Scenes.ABORTED, Scenes.INTERRUPTED};
        for (int work : over) {
            MIDDLE.refused("6: turn(" + work + "), it is over", 0, x -> x.turn(work));
        }
        int[] closed = {Scenes.WAITS_FOR_COPY, Scenes.WAITS_FOR_MESSAGE, Scenes.TOOK, Scenes.ASKED};
        for (int work : closed) {
            CLOSED.refused("6: turn(" + work + "), it is closed", 0, x -> x.turn(work));
        }
        due("6: closed before its first turn", 0, Scenes.closed().turn(Scenes.HAD_NO_TURN));
        due("6: one that came behind the closing", 2, Scenes.closed().turn(Scenes.WORKS_IN_THE_MIDDLE));
    }

    /** Promise 6, "1 takes the copy, or message, that it wants next": one thing in one turn. */
    private static void takesOneThingInATurn() {
        LendThreads x = Scenes.withWorks(2, 1);
        x.sends(1, 0, 0);
        x.sends(1, 0, 0);
        x.turn(1);
        x.wants(0, 0, false, 1);
        x.wants(0, 0, true, 1);
        x.wants(0, 0, false, 2);
        due("6: the copy", 1, x.turn(0));
        due("6: no message with it", 2, x.mail(1, 0));
        due("6: the message", 1, x.turn(0));
        due("6: one of two", 1, x.mail(1, 0));
        due("6: no copy with it", LendThreads.NONE, x.has(2));
        due("6: the other copy", 1, x.turn(0));
        CHECKS.log("6: it has all, and has not acted", x, 100);
        due("6: acts", 2, x.turn(0));
        CHECKS.log("6: it has acted", x, 100, 0);
    }

    /** Promise 6, "goes to the next step, or, behind the last one, it is DONE: all that it HAS is free" */
    private static void doneBehindTheLastStep() {
        LendThreads x = Scenes.withWorks(2, 2);
        x.wants(1, 0, false, 9);
        x.wants(1, 1, false, 0);
        CHECKS.turns("6: step 0", x, 1, 1, 2);
        CHECKS.states("6: the last step is next", x, 1, 0, 1, 0, 1);
        CHECKS.turns("6: step 1", x, 1, 1);
        due("6: it has the first", 1, x.has(0));
        due("6: it has the last", 1, x.has(9));
        CHECKS.turns("6: behind the last one", x, 1, 2);
        CHECKS.states("6: done", x, 1, 1, 2, 0, 0);
        due("6: the first is free", LendThreads.NONE, x.has(0));
        due("6: the last is free", LendThreads.NONE, x.has(9));
        due("6: what it did is not undone", 0 * 3 + 11, x.value(0));
        due("6: in both steps", 1 * 3 + 11, x.value(9));
    }

    /** Promise 6, "6 FAILS": instead of acting, when it has all that the step wants, and not before. */
    private static void failsInsteadOfActing() {
        LendThreads x = new LendThreads();
        x.work(2, 1);
        x.work(1, -1);
        x.wants(0, 1, false, 3);
        x.wants(0, 1, true, 1);
        x.sends(0, 0, 1);
        x.sends(0, 1, 1);
        x.sends(1, 0, 0);
        CHECKS.turns("6: acts, takes, waits", x, 0, 2, 1, 4);
        due("6: it has not failed yet", 0, x.state(0, 0));
        x.turn(1);
        CHECKS.turns("6: takes, fails, is over", x, 0, 1, 6, 0);
        CHECKS.states("6: failed at step 1", x, 0, 2, 1);
        CHECKS.log("6: the step that fails is no line", x, 0, 100);
        due("6: it sends nothing, and what it sent stays", 1, x.mail(0, 1));
        due("6: the message that it took is not put back", 0, x.mail(1, 0));
        due("6: the copy is free", LendThreads.NONE, x.has(3));
    }

    /** Promise 7, "how many steps acted": no works, all over, all waiting. */
    private static void runOfNothing() {
        EMPTY.refused("7: no works", 0, LendThreads::run);
        LendThreads x = Scenes.middle();
        x.close();
        due("7: all are over", 0, x.run());
        CHECKS.log("7: no line more", x, 0, 100, 200, 300, 500);
        LendThreads y = Scenes.withWorks(2, 1);
        y.wants(0, 0, true, 1);
        y.wants(1, 0, true, 0);
        due("7: all wait for messages", 0, y.run());
        due("7: and wait on", 0, y.run());
        due("7: they had a turn", 1, y.interrupt(1));
        LendThreads z = Scenes.withWorks(1, 1);
        due("7: one step", 1, z.run());
        due("7: and no more", 0, z.run());
    }

    /** Promise 7, "till all of them did 0, 3 or 4 in one round": a round with one 1, 2, 5 or 6 is not the last. */
    private static void roundsThatAreNotTheLast() {
        LendThreads takes = Scenes.withWorks(1, 1);
        takes.wants(0, 0, false, 0);
        due("7: a round that only takes", 1, takes.run());

        LendThreads acts = Scenes.withWorks(2, 1);
        acts.wants(0, 0, true, 1);
        acts.sends(1, 0, 0);
        due("7: a round that only acts: 0 waits, 1 sends", 2, acts.run());

        LendThreads asks = Scenes.withWorks(2, 1);
        asks.wants(0, 0, true, 1);
        asks.sends(1, 0, 0);
        asks.loses(1);
        asks.turn(1);
        due("7: a round that only asks", 1, asks.run());

        LendThreads fails = new LendThreads();
        fails.work(1, -1);
        fails.work(1, 0);
        fails.wants(0, 0, false, 0);
        fails.wants(1, 0, false, 0);
        fails.turn(1);
        due("7: a round that only fails: 0 waits, 1 sets the copy free", 1, fails.run());
        due("7: 1 failed", 2, fails.state(1, 0));
    }

    /** Promise 7, "0, 3 or 4": one of each is the last round. */
    private static void theLastRound() {
        LendThreads x = Scenes.withWorks(4, 1);
        x.turn(0);
        x.wants(1, 0, false, 5);
        x.wants(1, 0, true, 3);
        x.wants(2, 0, false, 5);
        x.wants(3, 0, true, 1);
        due("7: 0 is over, 1 takes and waits, 2 and 3 wait", 0, x.run());
        due("7: 1 has the copy", 1, x.has(5));
        CHECKS.line("7: 2 stands in line", x, 5, 2);
        due("7: 1 waits for a message", 1, x.interrupt(1));
        due("7: 3 waits for a message", 1, x.interrupt(3));
        due("7: now 2 gets it", 1, x.run());
    }

    /** Promise 7, "again and again": twelve works of ten steps, of which only one can go on at a time. */
    private static void theLongestRun() {
        LendThreads x = Scenes.withWorks(12, 10);
        for (int i = 0; i < 12; i++) {
            for (int step = 0; step < 10; step++) {
                x.wants(i, step, false, 0);
                x.wants(i, step, false, 0);
            }
        }
        due("7: each has copy 0 for ten steps", 120, x.run());
        for (int i = 0; i < 12; i++) {
            due("7: work " + i + " is done", 1, x.state(i, 0));
        }
        due("7: one behind the other", 109, x.log(19));
        due("7: the last step of the last work", 1109, x.log(119));
        due("7: nothing more", LendThreads.NONE, x.log(120));
        due("7: nothing more to do", 0, x.run());
    }

    /** Promise 7, "Turns of all works, by numbers": a work that comes between two runs takes part in the second. */
    private static void runOfWorksThatCameLater() {
        LendThreads x = Scenes.withWorks(1, 2);
        due("7: one work", 2, x.run());
        x.work(1, -1);
        x.work(2, -1);
        due("7: two more", 3, x.run());
        CHECKS.log("7: by numbers", x, 0, 1, 100, 200, 201);
    }

    public static void main(String[] args) {
        turnOfNoneSuch();
        turnOfOneThatIsOver();
        takesOneThingInATurn();
        doneBehindTheLastStep();
        failsInsteadOfActing();
        runOfNothing();
        roundsThatAreNotTheLast();
        theLastRound();
        theLongestRun();
        runOfWorksThatCameLater();
        CHECKS.end();
    }
}
