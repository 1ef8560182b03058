/** Promises 6 and 7: turns, and runs of them. */
public final class TurnTest {
    private static final Checks CHECKS = new Checks();

    private static void due(String call, int want, int got) {
        CHECKS.due(call, want, got);
    }

    /** Promise 6: "A TURN of a work: what it did."; "0 nothing: it is over, or there is none such" */
    private static void turnOfNone() {
        LendThreads x = Scenes.withWorks(1, 1);
        for (int none : new int[] {Integer.MIN_VALUE, -1, 1, 11, 12, Integer.MAX_VALUE}) {
            due("6: turn(" + none + ") of none such", 0, x.turn(none));
        }
        CHECKS.turns("6: acts, is done, does nothing", x, 0, 2, 0, 0);
    }

    /** Promise 6: "1 takes the copy", "2 ACTS, when it has all that its step wants" */
    private static void takesAndActs() {
        LendThreads x = new LendThreads();
        x.work(1, -1);
        x.work(3, -1);
        x.wants(1, 0, false, 4);
        x.wants(1, 1, false, 7);
        x.wants(1, 1, false, 4);
        CHECKS.turns("6: step 0", x, 1, 1, 2);
        due("6: 0 times 3 and 1 and 0", 1, x.value(4));
        due("6: a copy that it has not", 0, x.value(7));
        CHECKS.turns("6: a copy that it has already is taken in a turn", x, 1, 1, 1, 2);
        due("6: 1 times 3 and 1 and 10", 14, x.value(4));
        due("6: 0 times 3 and 1 and 10", 11, x.value(7));
        due("6: it has them still", 1, x.has(4));
        CHECKS.turns("6: a step that wants nothing acts at once", x, 1, 2, 0);
        due("6: it acted on what it had", 14 * 3 + 21, x.value(4));
        due("6: on both", 11 * 3 + 21, x.value(7));
        due("6: done, all is free", LendThreads.NONE, x.has(4));
        due("6: all", LendThreads.NONE, x.has(7));
        due("6: done", 1, x.state(1, 0));
    }

    /** Promise 6: "3 waits (for a copy)" */
    private static void waitsInLine() {
        LendThreads x = Scenes.withWorks(4, 2);
        for (int i = 0; i < 4; i++) {
            x.wants(i, 0, false, 6);
        }
        CHECKS.turns("6: the first gets it", x, 0, 1);
        CHECKS.turns("6: it is waited for", x, 3, 3, 3);
        CHECKS.turns("6: by another one too", x, 1, 3);
        due("6: who came first", 3, x.line(6, 0));
        due("6: who came then", 1, x.line(6, 1));
        due("6: each stands there once", LendThreads.NONE, x.line(6, 2));
        CHECKS.turns("6: step 0 and step 1, then done", x, 0, 2, 2, 0);
        due("6: it is free", LendThreads.NONE, x.has(6));
        CHECKS.turns("6: free, but others stand before it", x, 1, 3);
        CHECKS.turns("6: free, but others stand in line", x, 2, 3);
        due("6: it stands in line from then on", 2, x.line(6, 2));
        CHECKS.turns("6: the first in line gets it", x, 3, 1);
        due("6: and stands there no more", 1, x.line(6, 0));
        due("6: who is behind moves up", 2, x.line(6, 1));
        due("6: it has it", 3, x.has(6));
    }

    /** Promise 6: "4 waits (for a message); 5 asks for a LOST one" */
    private static void messages() {
        LendThreads x = Scenes.withWorks(2, 2);
        x.sends(0, 0, 1);
        x.sends(0, 1, 1);
        x.wants(1, 0, true, 0);
        x.wants(1, 0, true, 0);
        x.wants(1, 1, true, 0);
        CHECKS.turns("6: not sent", x, 1, 4, 4);
        x.loses(1);
        CHECKS.turns("6: sends, one is lost", x, 0, 2);
        CHECKS.turns("6: asks, takes in a later turn, waits", x, 1, 5, 1, 4);
        CHECKS.turns("6: sends", x, 0, 2, 0);
        CHECKS.turns("6: takes, acts, waits for a third", x, 1, 1, 2, 4);
        due("6: one asked for", 1, x.state(1, 4));
    }

    /** Promise 6: "1 takes the copy, or message, that it wants next", if one is there */
    private static void takesWhatIsThereBeforeItAsks() {
        LendThreads x = Scenes.withWorks(2, 1);
        x.sends(0, 0, 1);
        x.sends(0, 0, 1);
        x.wants(1, 0, true, 0);
        x.wants(1, 0, true, 0);
        x.loses(1);
        x.turn(0);
        CHECKS.turns("6: one is there, one is lost", x, 1, 1, 5, 1, 2, 0);
    }

    /** Promise 6: "4 waits (for a message)", though another work sent it one */
    private static void messagesFromTheRightWork() {
        LendThreads x = Scenes.withWorks(3, 1);
        x.sends(0, 0, 2);
        x.wants(2, 0, true, 1);
        x.turn(0);
        CHECKS.turns("6: sent by another one", x, 2, 4);
        CHECKS.turns("6: it sends none", x, 1, 2);
        CHECKS.turns("6: still", x, 2, 4);
        due("6: it is not taken", 1, x.mail(0, 2));
    }

    /** Promise 6: "6 FAILS", behind two acts */
    private static void fails() {
        LendThreads y = failing();
        CHECKS.turns("6: acts twice, takes and fails", y, 0, 1, 2, 1, 2, 1, 6, 0);
        due("6: undone", 1, y.value(1));
        due("6: undone too", 0, y.value(2));
        due("6: free", LendThreads.NONE, y.has(1));
        due("6: free too", LendThreads.NONE, y.has(2));
        due("6: and what it took last", LendThreads.NONE, y.has(3));
        due("6: failed", 2, y.state(0, 0));
        due("6: the log keeps its lines", 0, y.log(1));
        due("6: both", 1, y.log(2));
        due("6: the step that failed is no line", LendThreads.NONE, y.log(3));
        due("6: messages stay", 1, y.mail(0, 1));
    }

    /** Work 1 has left a value in copy 1; work 0 acts in steps 0 and 1 and fails at step 2. */
    private static LendThreads failing() {
        LendThreads y = new LendThreads();
        y.work(3, 2);
        y.work(1, -1);
        y.wants(0, 0, false, 1);
        y.wants(0, 1, false, 2);
        y.wants(0, 2, false, 3);
        y.sends(0, 1, 1);
        y.sends(0, 2, 1);
        y.wants(1, 0, false, 1);
        y.turn(1);
        y.turn(1);
        return y;
    }

    /** Promise 6: "6 FAILS", before any act */
    private static void failsAtItsFirstStep() {
        LendThreads x = new LendThreads();
        x.work(1, 0);
        CHECKS.turns("6: fails in place of acting", x, 0, 6, 0);
        due("6: it acted in no step", LendThreads.NONE, x.log(0));
    }

    /** "(ints run over)" */
    private static void valuesRunOver() {
        LendThreads x = Scenes.withWorks(12, 10);
        int want = 0;
        for (int i = 0; i < 12; i++) {
            x.wants(i, 0, false, 0);
            for (int k = 0; k < 10; k++) {
                want = want * 3 + i + 10 * k;
            }
        }
        due("7: all steps acted", 120, x.run());
        due("6: ints run over", want, x.value(0));
    }

    /**
     * Promise 7: "Turns of all works, by numbers, again and again, till all of them did 0, 3 or 4 in one round: how
     * many steps acted."
     */
    private static void run() {
        LendThreads x = Scenes.withWorks(3, 2);
        x.wants(0, 0, true, 2);
        x.sends(2, 1, 0);
        x.wants(1, 0, true, 0);
        x.loses(1);
        due("7: two steps of 2, then two of 0; 1 waits", 4, x.run());
        due("7: 2 in the first round", 200, x.log(0));
        due("7: 2 in the second round", 201, x.log(1));
        due("7: 0 then", 0, x.log(2));
        due("7: 0 asked", 1, x.state(0, 4));
        due("7: 1 waits", 0, x.state(1, 0));
        due("7: nothing more", 0, x.run());
    }

    /**
     * Promise 7: "till all of them did 0, 3 or 4 in one round": works that wait for each other, and one that fails
     */
    private static void runStopsAtRings() {
        LendThreads x = Scenes.withWorks(2, 2);
        x.wants(0, 0, false, 0);
        x.wants(0, 1, false, 1);
        x.wants(1, 0, false, 1);
        x.wants(1, 1, false, 0);
        due("7: both act once, by turns", 2, x.run());
        due("7: 0 waits", 0, x.line(1, 0));
        due("7: 1 waits", 1, x.line(0, 0));
        due("7: a failure is no act, and a round with one is not the last", 3, runWithFailure());
    }

    /** Work 1 fails in the round in which work 0 and all others wait, and so sets copy 0 free. */
    private static int runWithFailure() {
        LendThreads x = new LendThreads();
        x.work(2, -1);
        x.work(2, 1);
        x.wants(0, 0, false, 0);
        x.wants(1, 0, false, 0);
        x.turn(1);
        return x.run();
    }

    /** Promise 7: "Turns of all works, by numbers" */
    private static void runGoesByNumbers() {
        LendThreads x = Scenes.withWorks(3, 2);
        x.run();
        int[] lines = {0, 100, 200, 1, 101, 201};
        for (int i = 0; i < lines.length; i++) {
            due("7: by numbers, a turn each: log(" + i + ")", lines[i], x.log(i));
        }
        LendThreads y = Scenes.withWorks(2, 1);
        y.wants(0, 0, false, 5);
        y.wants(0, 0, false, 6);
        y.wants(1, 0, false, 6);
        y.wants(1, 0, false, 5);
        due("7: a turn each: both take one copy, then both wait", 0, y.run());
        due("7: 0 did not take two copies in a row", 0, y.has(5));
        due("7: 1 had its turn in between", 1, y.has(6));
    }

    /** Promise 7: "again and again", with rings that are broken */
    private static void longestRun() {
        LendThreads x = Scenes.withWorks(12, 10);
        for (int i = 0; i < 12; i++) {
            for (int k = 0; k < 10; k++) {
                x.wants(i, k, false, (i + k) % 2);
            }
        }
        due("7: twelve works want two copies, by turns", 120, runAndBreakRings(x));
    }

    private static int runAndBreakRings(LendThreads x) {
        x.run();
        for (int left = 0; left < 100; left++) {
            int broken = x.ring();
            if (broken == LendThreads.NONE) {
                break;
            }
            x.run();
            x.again(broken);
            x.run();
        }
        int done = 0;
        for (int i = 0; i < 12; i++) {
            done += x.state(i, 0) == 1 ? 10 : 0;
        }
        return done;
    }

    public static void main(String[] args) {
        turnOfNone();
        takesAndActs();
        waitsInLine();
        messages();
        takesWhatIsThereBeforeItAsks();
        messagesFromTheRightWork();
        fails();
        failsAtItsFirstStep();
        valuesRunOver();
        run();
        runStopsAtRings();
        runGoesByNumbers();
        longestRun();
        CHECKS.end();
    }
}
