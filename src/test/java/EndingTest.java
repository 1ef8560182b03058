/** Promises 8 to 11: rings, interruptions, beginning again, closing. */
public final class EndingTest {
    private static final int[] NO_WORKS = {Integer.MIN_VALUE, -1, 12, Integer.MAX_VALUE};
    private static final Checks CHECKS = new Checks();

    private static void due(String call, int want, int got) {
        CHECKS.due(call, want, got);
    }

    /** Works that have each the copy of their own number, behind step 0, and want a copy at step 1. */
    private static LendThreads withNext(int... next) {
        LendThreads x = new LendThreads();
        for (int i = 0; i < next.length; i++) {
            x.work(2, -1);
            x.wants(i, 0, false, i);
            if (next[i] >= 0) {
                x.wants(i, 1, false, next[i]);
            }
        }
        for (int i = 0; i < next.length; i++) {
            x.turn(i);
            x.turn(i);
        }
        return x;
    }

    private static void allWait(LendThreads x, int count) {
        for (int i = 0; i < count; i++) {
            x.turn(i);
        }
    }

    /**
     * Promise 8: "of its works the one with the greatest number is ABORTED: it is UNDONE, all is free as in a
     * failure: its number; NONE if there is no RING."
     */
    private static void ring() {
        LendThreads x = withNext(1, 2, 0);
        due("8: nobody waits yet", LendThreads.NONE, x.ring());
        x.turn(0);
        x.turn(1);
        due("8: the last one does not wait yet", LendThreads.NONE, x.ring());
        x.turn(2);
        due("8: the greatest is aborted", 2, x.ring());
        due("8: aborted", 3, x.state(2, 0));
        due("8: its step stays", 1, x.state(2, 1));
        due("8: its copy is free", LendThreads.NONE, x.has(2));
        due("8: undone", 0, x.value(2));
        due("8: others are not", 1, x.value(1));
        due("8: it stands in no line", LendThreads.NONE, x.line(0, 0));
        due("8: the log keeps its line", 200, x.log(2));
        due("8: no ring more", LendThreads.NONE, x.ring());
        due("8: the others go on", 2, x.run());
    }

    /** Promise 8: "Of the RINGS the one that has the work with the least number" */
    private static void ringOfTheLeast() {
        LendThreads x = withNext(5, 4, 3, 2, 1, 0);
        allWait(x, 6);
        due("8: the ring of 0 and 5", 5, x.ring());
        due("8: the ring of 1 and 4", 4, x.ring());
        due("8: the ring of 2 and 3", 3, x.ring());
        due("8: none", LendThreads.NONE, x.ring());
        LendThreads y = withNext(2, 4, 3, 2, 1);
        allWait(y, 5);
        due("8: 0 waits for a ring, but is not in it: the ring of 1 and 4", 4, y.ring());
        due("8: the ring of 2 and 3", 3, y.ring());
        due("8: none", LendThreads.NONE, y.ring());
        LendThreads z = withNext(2, 0, 1);
        allWait(z, 3);
        due("8: 0 waits for 2, 2 for 1, 1 for 0: the greatest is in the middle", 2, z.ring());
    }

    /** Promise 8: "NONE if there is no RING" */
    private static void ringIsNotAChain() {
        LendThreads x = withNext(1, 2, -1);
        x.turn(0);
        x.turn(1);
        due("8: a chain", LendThreads.NONE, x.ring());
        LendThreads y = new LendThreads();
        y.work(1, -1);
        y.work(1, -1);
        y.wants(0, 0, true, 1);
        y.wants(1, 0, true, 0);
        y.run();
        due("8: waiting for messages is no ring", LendThreads.NONE, y.ring());
        LendThreads z = withNext(1, 2, 3, 4, 5, 6, 7, 8, 9, 0);
        allWait(z, 10);
        due("8: a ring of ten", 9, z.ring());
        due("8: it is broken", LendThreads.NONE, z.ring());
    }

    /** "(for it does not matter who else stands in LINE)" */
    private static void ringBehindOthersInLine() {
        LendThreads x = withNext(1, 0, 1, 0);
        x.turn(2);
        x.turn(3);
        allWait(x, 2);
        due("8: 2 stands first for copy 1", 2, x.line(1, 0));
        due("8: who else stands in line does not matter", 1, x.ring());
        due("8: free, but nobody's ring", LendThreads.NONE, x.ring());
    }

    /**
     * Promise 9: "A work that waits (its latest turn since it began, or began again, did 3 or 4, and it is under
     * way) is INTERRUPTED, UNDONE likewise: 1. NONE; STATE."
     */
    private static void interrupt() {
        LendThreads x = withNext(1, -1);
        for (int none : NO_WORKS) {
            due("9: none such", LendThreads.NONE, x.interrupt(none));
        }
        due("9: none such yet", LendThreads.NONE, x.interrupt(2));
        due("9: it does not wait", LendThreads.STATE, x.interrupt(0));
        x.turn(0);
        due("9: it waits for a copy", 1, x.interrupt(0));
        due("9: interrupted", 4, x.state(0, 0));
        due("9: undone", 0, x.value(0));
        due("9: free", LendThreads.NONE, x.has(0));
        due("9: in no line", LendThreads.NONE, x.line(1, 0));
        due("9: the log keeps its line", 0, x.log(0));
        due("9: it is not under way", LendThreads.STATE, x.interrupt(0));
        x.again(0);
        due("9: it had no turn since it began again", LendThreads.STATE, x.interrupt(0));
        x.turn(1);
        due("9: done", LendThreads.STATE, x.interrupt(1));
    }

    /** Promise 9: "its latest turn", no earlier one */
    private static void interruptOfOneThatWaitsNoMore() {
        LendThreads x = new LendThreads();
        x.work(1, -1);
        x.work(2, -1);
        due("9: it had no turn", LendThreads.STATE, x.interrupt(1));
        x.sends(0, 0, 1);
        x.wants(1, 0, true, 0);
        x.wants(1, 1, true, 0);
        x.turn(1);
        x.loses(1);
        x.turn(0);
        x.turn(1);
        due("9: it asked", LendThreads.STATE, x.interrupt(1));
        x.turn(1);
        due("9: it took", LendThreads.STATE, x.interrupt(1));
        x.turn(1);
        due("9: it acted", LendThreads.STATE, x.interrupt(1));
        x.turn(1);
        due("9: it waits for a message", 1, x.interrupt(1));
    }

    /** Promise 9: "its latest turn", be the copy free by now */
    private static void interruptThoughTheCopyIsFreeNow() {
        LendThreads x = withNext(1, -1);
        x.turn(0);
        x.turn(1);
        due("9: the copy is free now", LendThreads.NONE, x.has(1));
        due("9: its latest turn waited all the same", 1, x.interrupt(0));
    }

    /**
     * Promise 10: "A work that is FAILED, ABORTED or INTERRUPTED is under way again, from step 0 on, and does not
     * FAIL any more: how often it was begun again. NONE, STATE."
     */
    private static void again() {
        LendThreads x = new LendThreads();
        x.work(2, 1);
        x.wants(0, 0, false, 0);
        x.wants(0, 1, false, 1);
        for (int none : NO_WORKS) {
            due("10: none such", LendThreads.NONE, x.again(none));
        }
        due("10: none such yet", LendThreads.NONE, x.again(1));
        due("10: under way", LendThreads.STATE, x.again(0));
        CHECKS.turns("10: fails", x, 0, 1, 2, 1, 6);
        due("10: begun again", 1, x.again(0));
        due("10: under way", 0, x.state(0, 0));
        due("10: from step 0 on", 0, x.state(0, 1));
        due("10: with nothing", 0, x.state(0, 2));
        due("10: under way already", LendThreads.STATE, x.again(0));
        CHECKS.turns("10: it does not fail any more", x, 0, 1, 2, 1, 2, 0);
        due("10: done", LendThreads.STATE, x.again(0));
        due("10: its value", 10, x.value(0));
    }

    /** Promise 10: "how often it was begun again" */
    private static void againAndAgain() {
        LendThreads x = new LendThreads();
        x.work(1, -1);
        x.work(1, -1);
        x.wants(0, 0, true, 1);
        for (int i = 1; i <= 20; i++) {
            x.turn(0);
            x.interrupt(0);
            due("10: interrupted, begun again", i, x.again(0));
        }
        LendThreads y = withNext(1, 0);
        allWait(y, 2);
        y.ring();
        due("10: aborted, begun again", 1, y.again(1));
        y.close();
        due("10: closed", LendThreads.STATE, y.again(1));
        due("10: closed too", LendThreads.STATE, y.again(0));
    }

    /** Promise 10: "from step 0 on"; "messages stay as they are" */
    private static void againTakesNoMessageBack() {
        LendThreads x = new LendThreads();
        x.work(1, -1);
        x.work(1, 0);
        x.sends(0, 0, 1);
        x.wants(1, 0, true, 0);
        x.loses(1);
        x.turn(0);
        CHECKS.turns("10: asks, takes, fails", x, 1, 5, 1, 6);
        x.again(1);
        CHECKS.turns("10: the message was taken", x, 1, 4);
        due("10: what it asked for stays", 1, x.state(1, 4));
    }

    /** Promise 11: "All works that are under way are CLOSED, the last first, each UNDONE: how many." */
    private static void close() {
        LendThreads x = withNext(1, -1, -1);
        x.turn(0);
        x.turn(2);
        due("11: 0 and 1 are under way", 2, x.close());
        due("11: closed", 5, x.state(0, 0));
        due("11: closed", 5, x.state(1, 0));
        due("11: done", 1, x.state(2, 0));
        due("11: undone", 0, x.value(0));
        due("11: undone", 0, x.value(1));
        due("11: what is done is not undone", 2 * 3 + 2 + 10, x.value(2));
        due("11: free", LendThreads.NONE, x.has(0));
        due("11: free", LendThreads.NONE, x.has(1));
        due("11: no line", LendThreads.NONE, x.line(1, 0));
        due("11: it is over", 0, x.turn(0));
        due("11: it is over", LendThreads.STATE, x.interrupt(0));
        due("11: none more", 0, x.close());
        due("11: a work may come behind it", 3, x.work(1, -1));
        due("11: and is under way", 2, x.turn(3));
    }

    /** Promise 11: "All works that are under way", no other ones */
    private static void closeLeavesOtherEnds() {
        LendThreads x = new LendThreads();
        x.work(1, 0);
        x.work(1, -1);
        x.wants(1, 0, true, 0);
        x.work(1, -1);
        x.run();
        x.interrupt(1);
        due("11: none is under way", 0, x.close());
        due("11: failed", 2, x.state(0, 0));
        due("11: interrupted", 4, x.state(1, 0));
        due("11: begun again behind it", 1, x.again(1));
        due("11: it is under way", 1, x.close());
    }

    /**
     * Promise 8: "it is UNDONE, all is free as in a failure"; promise 9: "UNDONE likewise"; promise 11: "each UNDONE":
     * whatever ends work 1, the same is left, and so it is of one that was told to fail.
     */
    private static void undoneLikewise() {
        for (int state = 2; state <= 5; state++) {
            LendThreads x = endedBy(state);
            String what = "6, 8, 9, 11: state " + state;
            due(what, state, x.state(1, 0));
            due(what + ": what it was before two acts", 2, x.value(5));
            due(what + ": what it was before one act", 0, x.value(6));
            due(what + ": free", LendThreads.NONE, x.has(5));
            due(what + ": free", LendThreads.NONE, x.has(6));
            due(what + ": it has none", 0, x.state(1, 3));
            CHECKS.line(what + ": it stands in no line", x, 7);
            CHECKS.log(what + ": the log keeps its lines", x, 200, 0, 100, 101);
            due(what + ": the message that it sent stays", 1, x.mail(1, 2));
            due(what + ": the message that it took stays taken", 0, x.mail(2, 1));
            due(what + ": it is over", 0, x.turn(1));
            due(what + ": the others are as they were", state == 5 ? 5 : 0, x.state(0, 0));
        }
    }

    /** Work 0 has copy 7 and waits for copy 5, work 1 has copies 5 and 6, and waits for copy 7 or fails. */
    private static LendThreads endedBy(int state) {
        LendThreads x = new LendThreads();
        x.work(2, -1);
        x.work(3, state == 2 ? 2 : -1);
        x.work(1, -1);
        x.wants(0, 0, false, 7);
        x.wants(0, 1, false, 5);
        x.wants(1, 0, false, 5);
        x.wants(1, 0, true, 2);
        x.sends(1, 0, 2);
        x.wants(1, 1, false, 6);
        x.sends(1, 1, 2);
        if (state != 2) {
            x.wants(1, 2, false, 7);
        }
        x.wants(2, 0, false, 5);
        x.sends(2, 0, 1);
        CHECKS.turns("work 2 leaves a value and a message", x, 2, 1, 2);
        CHECKS.turns("work 0 takes copy 7 and acts", x, 0, 1, 2);
        CHECKS.turns("work 1 acts and sends", x, 1, 1, 1, 2);
        x.loses(1);
        CHECKS.turns("work 1 acts, what it sends is lost", x, 1, 1, 2);
        CHECKS.turns("work 0 waits for copy 5", x, 0, 3);
        CHECKS.turns("work 1 fails or waits", x, 1, state == 2 ? 6 : 3);
        if (state == 3) {
            due("8: work 1 is aborted", 1, x.ring());
        } else if (state == 4) {
            due("9: work 1 is interrupted", 1, x.interrupt(1));
        } else if (state == 5) {
            due("11: works 0 and 1 are closed", 2, x.close());
        }
        return x;
    }

    public static void main(String[] args) {
        ring();
        ringOfTheLeast();
        ringIsNotAChain();
        ringBehindOthersInLine();
        interrupt();
        interruptOfOneThatWaitsNoMore();
        interruptThoughTheCopyIsFreeNow();
        again();
        againAndAgain();
        againTakesNoMessageBack();
        close();
        closeLeavesOtherEnds();
        undoneLikewise();
        CHECKS.end();
    }
}
