/** Promises 8 to 11, the edges that they name. */
public final class EndingEdgesTest {
    private static final Checks CHECKS = new Checks();
    private static final Twins EMPTY = new Twins(CHECKS, Scenes::empty);
    private static final Twins FULL = new Twins(CHECKS, Scenes::full);
    private static final Twins MIDDLE = new Twins(CHECKS, Scenes::middle);
    private static final Twins CLOSED = new Twins(CHECKS, Scenes::closed);

    private static void due(String call, int want, int got) {
        CHECKS.due(call, want, got);
    }

    /** Work i takes copy has[i] in step 0 and acts, then stands in line for copy wants[i]; -1: it has no turn. */
    private static LendThreads waiting(int[] has, int[] wants) {
        LendThreads x = Scenes.withWorks(has.length, 2);
        for (int i = 0; i < has.length; i++) {
            if (has[i] >= 0) {
                x.wants(i, 0, false, has[i]);
                x.wants(i, 1, false, wants[i]);
                x.turn(i);
                x.turn(i);
            }
        }
        for (int i = 0; i < has.length; i++) {
            if (has[i] >= 0) {
                x.turn(i);
            }
        }
        return x;
    }

    /** Promise 8, the smallest RING: two works; "all is free as in a failure". */
    private static void ringOfTwo() {
        LendThreads x = waiting(new int[] {9, 0}, new int[] {0, 9});
        CHECKS.line("8: 1 waits", x, 9, 1);
        due("8: the greater one", 1, x.ring());
        CHECKS.states("8: aborted, with nothing", x, 1, 3, 1, 0, 0);
        due("8: its copy is free", LendThreads.NONE, x.has(0));
        due("8: undone", 0, x.value(0));
        CHECKS.line("8: it stands in no line", x, 9);
        CHECKS.line("8: the other one stands where it stood", x, 0, 0);
        due("8: the other one is under way", 0, x.state(0, 0));
        due("8: one ring was all", LendThreads.NONE, x.ring());
        due("8: it begins again", 1, x.again(1));
        due("8: 0 acts in step 1, 1 acts in both", 3, x.run());
    }

    /** Promise 8, the greatest RING: there are ten copies, so ten of the twelve works. */
    private static void ringOfTen() {
        int[] has = {-1, 0, 1, 2, 3, 4, 5, 6, 7, 8, 9, -1};
        int[] wants = {-1, 1, 2, 3, 4, 5, 6, 7, 8, 9, 0, -1};
        LendThreads x = waiting(has, wants);
        due("8: the greatest of ten", 10, x.ring());
        due("8: broken", LendThreads.NONE, x.ring());
        due("8: nine are left, each with its last step, and two that wanted nothing", 9 + 4, x.run());
    }

    /** Promise 8, "the one that has the work with the least number", the last two works, and the first. */
    private static void ringsOfTheFirstAndTheLast() {
        int[] has = {0, -1, -1, -1, -1, -1, -1, -1, -1, 1, 2, 3};
        int[] wants = {1, -1, -1, -1, -1, -1, -1, -1, -1, 0, 3, 2};
        LendThreads x = waiting(has, wants);
        due("8: the ring of 0 and 9 goes first, though 11 is greater", 9, x.ring());
        due("8: the ring of 10 and 11", 11, x.ring());
        due("8: none is left", LendThreads.NONE, x.ring());
        wants[0] = 3;
        wants[9] = 2;
        wants[10] = 1;
        wants[11] = 0;
        LendThreads y = waiting(has, wants);
        due("8: the ring of 0 and 11 goes first, though 9 is found before 11", 11, y.ring());
        due("8: the ring of 9 and 10", 10, y.ring());
        due("8: none is left", LendThreads.NONE, y.ring());
    }

    /** Promise 8, "of its works the one with the greatest number": one that waits for the ring is not of it. */
    private static void ringWithOneThatWaitsForIt() {
        LendThreads x = waiting(new int[] {2, 0, 1, 3}, new int[] {0, 1, 0, 0});
        CHECKS.line("8: 0, 2 and 3 stand in line for copy 0", x, 0, 0, 2, 3);
        due("8: 0 and 3 wait for the ring of 1 and 2", 2, x.ring());
        due("8: 0 and 3 wait on, for no ring", LendThreads.NONE, x.ring());
    }

    /** A RING: "waits for a copy that the next one HAS": one that is free makes none, whoever stands in line. */
    private static void noRingThroughAFreeCopy() {
        LendThreads x = Scenes.middle();
        due("8: the copy that 2 waits for is free", LendThreads.NONE, x.has(3));
        CHECKS.line("8: 2 stands in line for it", x, 3, Scenes.WAITS_FOR_FREE_COPY);
        due("8: no ring", LendThreads.NONE, x.ring());
    }

    /** Promise 8, "NONE if there is no RING" */
    private static void noRingChangesNothing() {
        EMPTY.refused("8: no works", LendThreads.NONE, LendThreads::ring);
        FULL.refused("8: nobody had a turn", LendThreads.NONE, LendThreads::ring);
        MIDDLE.refused("8: works wait, but for no ring", LendThreads.NONE, LendThreads::ring);
        CLOSED.refused("8: all are closed", LendThreads.NONE, LendThreads::ring);
    }

    /** Promise 9, "NONE" */
    private static void interruptOfNone() {
        LendThreads x = Scenes.withWorks(12, 1);
        x.wants(0, 0, true, 11);
        x.wants(11, 0, true, 0);
        x.run();
        due("9: below the first", LendThreads.NONE, x.interrupt(-1));
        due("9: the first", 1, x.interrupt(0));
        due("9: the last", 1, x.interrupt(11));
        due("9: behind the last", LendThreads.NONE, x.interrupt(12));
        EMPTY.refused("9: interrupt(0) of a new object", LendThreads.NONE, y -> y.interrupt(0));
        MIDDLE.refused("9: interrupt(10) of ten works", LendThreads.NONE, y -> y.interrupt(10));
        MIDDLE.refused("9: interrupt(-1)", LendThreads.NONE, y -> y.interrupt(-1));
    }

    /** Promise 9, "STATE": no turn yet, one that took or asked or acted, and all that are over. */
    private static void interruptOfOneThatDoesNotWait() {
        int[] wrong = {Scenes.DONE, Scenes.FAILED, Scenes.ABORTED, Scenes.INTERRUPTED, Scenes.HAD_NO_TURN,
            Scenes.TOOK, Scenes.ASKED};
        for (int work : wrong) {
            MIDDLE.refused("9: interrupt(" + work + ")", LendThreads.STATE, x -> x.interrupt(work));
        }
        // Closed ones had waited in their latest turn, but are not under way.
        CLOSED.refused("9: closed, waited for a copy", LendThreads.STATE, x -> x.interrupt(Scenes.WAITS_FOR_COPY));
        CLOSED.refused("9: closed, waited", LendThreads.STATE, x -> x.interrupt(Scenes.WAITS_FOR_MESSAGE));
        LendThreads y = Scenes.withWorks(1, 2);
        y.turn(0);
        due("9: it acted", LendThreads.STATE, y.interrupt(0));
        due("9: it is under way", 0, y.state(0, 0));
    }

    /** Promise 9, "did 3 or 4 .. UNDONE likewise: 1" */
    private static void interruptOfOneThatWaits() {
        LendThreads x = Scenes.middle();
        due("9: its value", 5, x.value(4));
        due("9: it waits for a message", 1, x.interrupt(Scenes.WAITS_FOR_MESSAGE));
        CHECKS.states("9: interrupted, with nothing", x, Scenes.WAITS_FOR_MESSAGE, 4, 1, 0, 0);
        due("9: undone", 0, x.value(4));
        due("9: free", LendThreads.NONE, x.has(4));
        CHECKS.line("9: who waited for it stands in line", x, 4, Scenes.WAITS_FOR_COPY);
        due("9: it waits for a copy that is free by now", 1, x.interrupt(Scenes.WAITS_FOR_COPY));
        CHECKS.line("9: it stands in no line", x, 4);
        due("9: it waits for a copy that was free before", 1, x.interrupt(Scenes.WAITS_FOR_FREE_COPY));
        due("9: it has no copy", LendThreads.NONE, x.has(2));
        CHECKS.log("9: the log keeps its lines", x, 0, 100, 200, 300, 500);
    }

    /** Promise 9, "since it began, or began again": what it did before does not count. */
    private static void interruptOfOneBegunAgain() {
        LendThreads x = Scenes.middle();
        for (int work : new int[] {Scenes.FAILED, Scenes.ABORTED, Scenes.INTERRUPTED}) {
            x.again(work);
            due("9: begun again, no turn yet", LendThreads.STATE, x.interrupt(work));
        }
        due("9: it waits again", 4, x.turn(Scenes.INTERRUPTED));
        due("9: now it is interrupted", 1, x.interrupt(Scenes.INTERRUPTED));
        due("9: once", LendThreads.STATE, x.interrupt(Scenes.INTERRUPTED));
    }

    /** Promise 9, "its latest turn": one that waited and then took, or asked, waits no more. */
    private static void interruptOfOneThatWaitedOnce() {
        LendThreads x = Scenes.withWorks(2, 1);
        x.wants(0, 0, false, 0);
        x.wants(1, 0, false, 0);
        CHECKS.turns("9: takes", x, 0, 1);
        CHECKS.turns("9: waits", x, 1, 3, 3);
        CHECKS.turns("9: is done", x, 0, 2);
        CHECKS.turns("9: takes", x, 1, 1);
        due("9: its latest turn took", LendThreads.STATE, x.interrupt(1));
        due("9: a turn of another one is not its turn", LendThreads.STATE, x.turn(0) == 0 ? x.interrupt(1) : 0);
    }

    /** Promise 10, "NONE" */
    private static void againOfNone() {
        LendThreads x = Scenes.withWorks(12, 1);
        x.wants(0, 0, true, 11);
        x.wants(11, 0, true, 0);
        x.run();
        x.interrupt(0);
        x.interrupt(11);
        due("10: below the first", LendThreads.NONE, x.again(-1));
        due("10: the first", 1, x.again(0));
        due("10: the last", 1, x.again(11));
        due("10: behind the last", LendThreads.NONE, x.again(12));
        EMPTY.refused("10: again(0) of a new object", LendThreads.NONE, y -> y.again(0));
        MIDDLE.refused("10: again(10) of ten works", LendThreads.NONE, y -> y.again(10));
        MIDDLE.refused("10: again(-1)", LendThreads.NONE, y -> y.again(-1));
    }

    /** Promise 10, "STATE": under way, DONE and CLOSED. */
    private static void againOfOneThatIsNotToBegin() {
        int[] wrong = {Scenes.DONE, Scenes.WAITS_FOR_FREE_COPY, Scenes.WAITS_FOR_MESSAGE, Scenes.HAD_NO_TURN,
            Scenes.WAITS_FOR_COPY, Scenes.TOOK, Scenes.ASKED};
        for (int work : wrong) {
            MIDDLE.refused("10: again(" + work + ")", LendThreads.STATE, x -> x.again(work));
            CLOSED.refused("10: again(" + work + "), closed", LendThreads.STATE, x -> x.again(work));
        }
    }

    /** Promise 10, "A work that is FAILED, ABORTED or INTERRUPTED is under way again, from step 0 on" */
    private static void againOfEachEnd() {
        LendThreads x = Scenes.middle();
        for (int work : new int[] {Scenes.FAILED, Scenes.ABORTED, Scenes.INTERRUPTED}) {
            due("10: begun again", 1, x.again(work));
            CHECKS.states("10: from step 0 on", x, work, 0, 0, 0, 0);
            due("10: it is under way", LendThreads.STATE, x.again(work));
        }
        LendThreads y = Scenes.closed();
        due("10: a closing leaves them as they were", 1, y.again(Scenes.FAILED));
    }

    /** Promise 10, "from step 0 on": what it had got of the step at which it ended is to be got again. */
    private static void againTakesAllAgain() {
        LendThreads x = new LendThreads();
        x.work(2, 1);
        x.wants(0, 0, false, 5);
        for (int copy = 0; copy < 4; copy++) {
            x.wants(0, 1, false, copy);
        }
        CHECKS.turns("10: fails with all four", x, 0, 1, 2, 1, 1, 1, 1, 6);
        due("10: begun again", 1, x.again(0));
        CHECKS.states("10: it has got nothing", x, 0, 0, 0, 0, 0);
        CHECKS.turns("10: takes all again", x, 0, 1, 2, 1, 1, 1, 1, 2, 0);
        due("10: as if it had not failed", 10, x.value(5));
    }

    /** Promise 10, "and does not FAIL any more": at the step that it was told to, and at no other one. */
    private static void againDoesNotFail() {
        LendThreads x = new LendThreads();
        x.work(1, 0);
        x.work(10, 9);
        CHECKS.turns("10: fails at its only step", x, 0, 6, 0);
        x.again(0);
        CHECKS.turns("10: acts", x, 0, 2, 0);
        CHECKS.turns("10: fails at its last step", x, 1, 2, 2, 2, 2, 2, 2, 2, 2, 2, 6);
        x.again(1);
        CHECKS.turns("10: acts", x, 1, 2, 2, 2, 2, 2, 2, 2, 2, 2, 2, 0);
        due("10: done", 1, x.state(1, 0));
        LendThreads y = new LendThreads();
        y.work(2, 1);
        y.work(1, -1);
        y.wants(0, 0, true, 1);
        y.sends(1, 0, 0);
        y.turn(0);
        y.interrupt(0);
        y.again(0);
        y.turn(1);
        CHECKS.turns("10: nor one that was interrupted before it could fail", y, 0, 1, 2, 2, 0);
    }

    /** Promise 10, "how often it was begun again": of each work for itself. */
    private static void againAndAgain() {
        LendThreads x = Scenes.withWorks(2, 1);
        x.wants(0, 0, true, 1);
        x.wants(1, 0, true, 0);
        for (int i = 1; i <= 50; i++) {
            x.run();
            x.interrupt(0);
            due("10: so often", i, x.again(0));
        }
        x.interrupt(1);
        due("10: the other one once", 1, x.again(1));
    }

    /** Promise 11, "how many": none there, none under way, one, all twelve. */
    private static void closeOfNoneOneAndTwelve() {
        EMPTY.refused("11: no works", 0, LendThreads::close);
        LendThreads x = Scenes.withWorks(1, 1);
        due("11: one that had no turn", 1, x.close());
        due("11: none more", 0, x.close());
        due("11: closed", 5, x.state(0, 0));
        LendThreads y = Scenes.withWorks(12, 1);
        due("11: twelve", 12, y.close());
        due("11: the first", 5, y.state(0, 0));
        due("11: the last", 5, y.state(11, 0));
        due("11: none more", 0, y.close());
        LendThreads z = Scenes.withWorks(12, 1);
        z.run();
        due("11: all are done", 0, z.close());
        due("11: done it stays", 1, z.state(11, 0));
    }

    /** Promise 11, "All works that are under way": no other ones. */
    private static void closeOfTheMiddle() {
        LendThreads x = Scenes.middle();
        due("11: six of ten", 6, x.close());
        int[] states = {1, 2, 5, 3, 4, 5, 5, 5, 5, 5};
        for (int i = 0; i < states.length; i++) {
            due("11: work " + i, states[i], x.state(i, 0));
            due("11: has nothing", 0, x.state(i, 3));
        }
        for (int copy = 0; copy < 10; copy++) {
            due("11: free", LendThreads.NONE, x.has(copy));
            due("11: undone", 0, x.value(copy));
            CHECKS.line("11: nobody stands in line", x, copy);
        }
        CHECKS.log("11: the log keeps its lines", x, 0, 100, 200, 300, 500);
        due("11: messages stay", 1, x.mail(Scenes.DONE, Scenes.HAD_NO_TURN));
        due("11: messages that were asked for stay", 1, x.mail(Scenes.DONE, Scenes.ASKED));
        due("11: once", 0, x.close());
    }

    /** Promise 11, "each UNDONE": a value goes back to what works that are DONE have left. */
    private static void closeKeepsWhatIsDone() {
        LendThreads x = Scenes.withWorks(3, 2);
        for (int i = 0; i < 3; i++) {
            x.wants(i, 0, false, 0);
        }
        CHECKS.turns("11: work 2 is done", x, 2, 1, 2, 2);
        CHECKS.turns("11: work 0 acts once", x, 0, 1, 2);
        due("11: both acted", (2 * 3 + 12) * 3, x.value(0));
        due("11: two are closed", 2, x.close());
        due("11: what work 2 left", 18, x.value(0));
    }

    public static void main(String[] args) {
        ringOfTwo();
        ringOfTen();
        ringsOfTheFirstAndTheLast();
        ringWithOneThatWaitsForIt();
        noRingThroughAFreeCopy();
        noRingChangesNothing();
        interruptOfNone();
        interruptOfOneThatDoesNotWait();
        interruptOfOneThatWaits();
        interruptOfOneBegunAgain();
        interruptOfOneThatWaitedOnce();
        againOfNone();
        againOfOneThatIsNotToBegin();
        againOfEachEnd();
        againTakesAllAgain();
        againDoesNotFail();
        againAndAgain();
        closeOfNoneOneAndTwelve();
        closeOfTheMiddle();
        closeKeepsWhatIsDone();
        CHECKS.end();
    }
}
