import java.util.function.ToIntFunction;

/** The edges that "What it is" and "Terms" name: how much there is of each thing, and what happens at either end. */
public final class TermsEdgesTest {
    private static final Checks CHECKS = new Checks();

    private static void due(String call, int want, int got) {
        CHECKS.due(call, want, got);
    }

    /** "An object is used for at most 512 calls after it has been made": 3 calls, 169 times 3 calls, 2 calls. */
    private static void theLastOf512Calls() {
        LendThreads x = Scenes.withWorks(2, 1);
        x.wants(0, 0, true, 1);
        for (int i = 1; i <= 169; i++) {
            due("calls: waits", 4, x.turn(0));
            due("calls: is interrupted", 1, x.interrupt(0));
            due("calls: begun again so often", i, x.again(0));
        }
        due("calls: the 511th", 4, x.turn(0));
        due("calls: the 512th", 1, x.interrupt(0));
    }

    /** "at most 512 calls after it has been made": refused ones are calls too */
    private static void theLastOf512CallsBehindRefusedOnes() {
        LendThreads x = Scenes.empty();
        for (int i = 0; i < 255; i++) {
            due("calls: refused", LendThreads.RANGE, x.work(0, -1));
            due("calls: refused too", LendThreads.NONE, x.wants(0, 0, false, 0));
        }
        due("calls: the 511th", 0, x.work(1, -1));
        due("calls: the 512th", 2, x.turn(0));
    }

    /** "at most 512 calls after it has been made": each call of the face, from the 7th to the 512th. */
    private static void eachCallToTheEnd() {
        toTheEnd("work(11, -1)", LendThreads.RANGE, x -> x.work(11, -1));
        toTheEnd("wants(1, 0, false, 10)", LendThreads.RANGE, x -> x.wants(1, 0, false, 10));
        toTheEnd("sends(1, 0, 1)", LendThreads.RANGE, x -> x.sends(1, 0, 1));
        toTheEnd("loses(100)", 1, x -> x.loses(100));
        toTheEnd("turn(0)", 4, x -> x.turn(0));
        toTheEnd("run()", 0, x -> x.run());
        toTheEnd("ring()", LendThreads.NONE, x -> x.ring());
        toTheEnd("interrupt(0)", LendThreads.STATE, x -> x.interrupt(0));
        toTheEnd("again(0)", LendThreads.STATE, x -> x.again(0));
        toTheEnd("close()", 0, x -> x.close());
        toTheEnd("state(0, 2)", 1, x -> x.state(0, 2));
        toTheEnd("has(5)", 0, x -> x.has(5));
        toTheEnd("line(5, 0)", LendThreads.NONE, x -> x.line(5, 0));
        toTheEnd("value(5)", 0, x -> x.value(5));
        toTheEnd("log(0)", LendThreads.NONE, x -> x.log(0));
        toTheEnd("mail(1, 0)", 0, x -> x.mail(1, 0));
    }

    /** Five calls, the one that is meant, for a run or a closing changes something once, and 506 times the same. */
    private static void toTheEnd(String name, int answer, ToIntFunction<LendThreads> call) {
        LendThreads x = Scenes.withWorks(2, 2);
        x.wants(0, 0, false, 5);
        x.wants(0, 0, true, 1);
        x.turn(0);
        call.applyAsInt(x);
        for (int i = 7; i <= 512; i++) {
            due("calls: " + name + " as call " + i, answer, call.applyAsInt(x));
        }
    }

    /** "one for each time it was sent": 21 calls, then 18 messages in 3 calls, 163 times. */
    private static void messagesOf512Calls() {
        LendThreads x = sendsEighteenAndWaits();
        for (int i = 1; i <= 163; i++) {
            due("messages: nine steps", i == 1 ? 10 : 9, x.run());
            due("messages: is interrupted", 1, x.interrupt(0));
            due("messages: begun again", i, x.again(0));
        }
        due("messages: all are there", 163 * 18, x.mail(0, 1));
    }

    /** Work 0 sends two messages to work 1 in each of nine steps and waits in the tenth; work 1 does nothing. */
    private static LendThreads sendsEighteenAndWaits() {
        LendThreads x = new LendThreads();
        x.work(10, -1);
        x.work(1, -1);
        for (int step = 0; step < 9; step++) {
            x.sends(0, step, 1);
            x.sends(0, step, 1);
        }
        x.wants(0, 9, true, 1);
        return x;
    }

    /** "WORKS are 0 .. 11, as they come" */
    private static void twelveWorks() {
        LendThreads x = new LendThreads();
        for (int i = 0; i < 12; i++) {
            due("works: not there yet", 0, x.turn(i));
            due("works: as they come", i, x.work(1, -1));
        }
        due("works: no thirteenth", LendThreads.FULL, x.work(1, -1));
        due("works: the first", 2, x.turn(0));
        due("works: the last", 2, x.turn(11));
        due("works: behind the last", 0, x.turn(12));
        CHECKS.log("works: the first and the last", x, 0, 1100);
    }

    /** "COPIES 0 .. 9, each with a VALUE, 0 at first": one work takes all of them, four in a step. */
    private static void tenCopies() {
        LendThreads x = Scenes.withWorks(2, 4);
        for (int copy = 0; copy < 10; copy++) {
            due("copies: 0 at first", 0, x.value(copy));
            due("copies: it is one", copy % 4 + 1, x.wants(1, copy / 4, false, copy));
        }
        due("copies: no eleventh", LendThreads.RANGE, x.wants(1, 3, false, 10));
        due("copies: none below 0", LendThreads.RANGE, x.wants(1, 3, false, -1));
        CHECKS.turns("copies: four, four and two", x, 1, 1, 1, 1, 1, 2, 1, 1, 1, 1, 2, 1, 1, 2);
        due("copies: it has them all", 10, x.state(1, 3));
        due("copies: the first one's value, of three acts", (1 * 3 + 11) * 3 + 21, x.value(0));
        due("copies: the last one's, of one act", 21, x.value(9));
        CHECKS.turns("copies: done", x, 1, 2);
        due("copies: it has none", 0, x.state(1, 3));
        for (int copy = 0; copy < 10; copy++) {
            due("copies: all are free", LendThreads.NONE, x.has(copy));
        }
    }

    /** "A work has STEPS, 1 .. 10, from 0 on." */
    private static void oneStepAndTen() {
        LendThreads x = new LendThreads();
        x.work(1, -1);
        x.work(10, -1);
        CHECKS.turns("steps: one", x, 0, 2, 0);
        CHECKS.turns("steps: ten", x, 1, 2, 2, 2, 2, 2, 2, 2, 2, 2);
        due("steps: the tenth is next", 9, x.state(1, 1));
        due("steps: it is under way", 0, x.state(1, 0));
        CHECKS.turns("steps: the tenth", x, 1, 2, 0);
        due("steps: it is done", 1, x.state(1, 0));
        CHECKS.log("steps: from 0 on", x, 0, 100, 101, 102, 103, 104, 105, 106, 107, 108, 109);
    }

    /** "Each step has WANTS, at most 4, in the order in which they are told" */
    private static void noWantsAndFour() {
        LendThreads x = Scenes.withWorks(2, 2);
        x.sends(1, 0, 0);
        x.turn(1);
        x.wants(0, 1, false, 9);
        x.wants(0, 1, true, 1);
        x.wants(0, 1, false, 0);
        x.wants(0, 1, false, 5);
        CHECKS.turns("wants: none, it acts at once", x, 0, 2);
        int[][] hasAfter = {{0, -1, -1, 1}, {0, -1, -1, 0}, {0, 0, -1, 0}, {0, 0, 0, 0}};
        for (int i = 0; i < 4; i++) {
            CHECKS.turns("wants: takes one", x, 0, 1);
            due("wants: got so many", i + 1, x.state(0, 2));
            due("wants: copy 9 first", hasAfter[i][0], x.has(9));
            due("wants: copy 0 third", hasAfter[i][1], x.has(0));
            due("wants: copy 5 fourth", hasAfter[i][2], x.has(5));
            due("wants: the message second", hasAfter[i][3], x.mail(1, 0));
        }
        CHECKS.turns("wants: all four are there", x, 0, 2, 0);
    }

    /** "then it SENDS, to at most 2 works, in order" */
    private static void noSendsAndTwo() {
        LendThreads x = Scenes.withWorks(3, 2);
        x.sends(0, 1, 2);
        x.sends(0, 1, 1);
        x.loses(1);
        x.turn(0);
        due("sends: none in step 0", 0, x.mail(0, 1) + x.mail(0, 2));
        x.turn(0);
        due("sends: the first that was told is the first sent, and lost", 0, x.mail(0, 2));
        due("sends: the second is there", 1, x.mail(0, 1));
    }

    /** "(ints run over)": above the greatest int in step 8 of work 1, below the least one in its step 9. */
    private static void valuesRunOver() {
        LendThreads x = runsOver(-1);
        due("values: the last that is no greater than an int", 968226410, x.value(0));
        x.turn(1);
        due("values: 2904679311 runs over", -1390287985, x.value(0));
        x.turn(1);
        due("values: -4170863864 runs over", 124103432, x.value(0));
        due("values: it is done", 1, x.state(1, 0));
    }

    /** "each copy's VALUE that it changed is what it was before that", where it ran over too */
    private static void valuesThatRanOverAreUndone() {
        LendThreads x = runsOver(9);
        x.turn(1);
        due("values: it ran over", -1390287985, x.value(0));
        due("values: fails at its last step", 6, x.turn(1));
        due("values: what it was before nine acts", 147570, x.value(0));
    }

    /** Work 0 is done with copy 0, work 1 has acted on it in its steps 0 to 7. */
    private static LendThreads runsOver(int failsAt) {
        LendThreads x = new LendThreads();
        x.work(10, -1);
        x.work(10, failsAt);
        x.wants(0, 0, false, 0);
        x.wants(1, 0, false, 0);
        for (int i = 0; i < 11; i++) {
            x.turn(0);
        }
        due("values: ten acts of work 0", 147570, x.value(0));
        for (int i = 0; i < 9; i++) {
            x.turn(1);
        }
        return x;
    }

    /** "the work stands in the copy's LINE ... till it gets it": nobody, one, and all eleven others. */
    private static void linesOfNoneOneAndEleven() {
        LendThreads x = Scenes.withWorks(12, 1);
        for (int i = 0; i < 12; i++) {
            x.wants(i, 0, false, 9);
        }
        CHECKS.line("line: nobody, the copy is free", x, 9);
        x.turn(11);
        CHECKS.line("line: nobody, one has the copy", x, 9);
        x.turn(0);
        CHECKS.line("line: one", x, 9, 0);
        x.turn(0);
        CHECKS.line("line: one still, in a second turn", x, 9, 0);
        for (int i = 10; i > 0; i--) {
            x.turn(i);
        }
        CHECKS.line("line: eleven, as they came", x, 9, 0, 10, 9, 8, 7, 6, 5, 4, 3, 2, 1);
        due("line: it gets free", 2, x.turn(11));
        due("line: the last in line does not get it", 3, x.turn(1));
        due("line: nor does the second", 3, x.turn(10));
        CHECKS.line("line: all are where they were", x, 9, 0, 10, 9, 8, 7, 6, 5, 4, 3, 2, 1);
        due("line: the first gets it", 1, x.turn(0));
        CHECKS.line("line: ten", x, 9, 10, 9, 8, 7, 6, 5, 4, 3, 2, 1);
        due("line: all get it", 11, x.run());
        CHECKS.line("line: nobody", x, 9);
    }

    /** "it stands in no LINE" then: the first, the last and the only one leave. */
    private static void theEndsOfALineLeave() {
        LendThreads x = Scenes.withWorks(5, 1);
        for (int i = 0; i < 5; i++) {
            x.wants(i, 0, false, 0);
            x.turn(i);
        }
        CHECKS.line("line: four", x, 0, 1, 2, 3, 4);
        x.interrupt(1);
        CHECKS.line("line: the first left", x, 0, 2, 3, 4);
        x.interrupt(4);
        CHECKS.line("line: the last left", x, 0, 2, 3);
        x.interrupt(2);
        x.interrupt(3);
        CHECKS.line("line: the only one left", x, 0);
        x.turn(0);
        due("line: nobody stands there, so it gets the copy at once", 1, x.again(4) == 1 ? x.turn(4) : 0);
    }

    /** "a copy that is free, but for which others stand in LINE before it, is not got" */
    private static void freeButOthersStandInLine() {
        LendThreads x = Scenes.withWorks(3, 1);
        for (int i = 0; i < 3; i++) {
            x.wants(i, 0, false, 4);
        }
        x.turn(0);
        x.turn(2);
        x.turn(0);
        due("line: the copy is free", LendThreads.NONE, x.has(4));
        due("line: 2 stands before it", 3, x.turn(1));
        CHECKS.line("line: it stands in line from this turn on", x, 4, 2, 1);
        due("line: nobody got it", LendThreads.NONE, x.has(4));
        x.interrupt(2);
        due("line: nobody stands before it now", 1, x.turn(1));
    }

    /** "(it may want it again: then it has it)", though others stand in line for it */
    private static void wantedAgainWhileOthersStandInLine() {
        LendThreads x = Scenes.withWorks(2, 2);
        x.wants(0, 0, false, 3);
        x.wants(0, 0, false, 3);
        x.wants(0, 1, false, 3);
        x.wants(1, 0, false, 3);
        x.turn(0);
        due("again: the other one waits", 3, x.turn(1));
        CHECKS.turns("again: it has it, in this step and in the next", x, 0, 1, 2, 1);
        due("again: it has one copy", 1, x.state(0, 3));
        CHECKS.line("again: the other one stands in line, and nobody else", x, 3, 1);
        due("again: an act changes it once", 0 * 3 + 0, x.value(3));
        CHECKS.turns("again: done", x, 0, 2, 0);
        due("again: the value", 10, x.value(3));
        due("again: it is free", LendThreads.NONE, x.has(3));
    }

    /** "(as many as are told to be, of those sent next)": none, and 100, the 101st not. */
    private static void asManyAreLostAsTold() {
        LendThreads none = sendsEighteenAndWaits();
        none.loses(0);
        none.turn(0);
        due("lost: none", 2, none.mail(0, 1));
        LendThreads x = sendsEighteenAndWaits();
        x.loses(100);
        for (int i = 0; i < 5; i++) {
            x.run();
            x.interrupt(0);
            x.again(0);
        }
        due("lost: ninety", 0, x.mail(0, 1));
        CHECKS.turns("lost: ten more", x, 0, 2, 2, 2, 2, 2);
        due("lost: a hundred", 0, x.mail(0, 1));
        CHECKS.turns("lost: two more", x, 0, 2);
        due("lost: the 101st and the 102nd are there", 2, x.mail(0, 1));
    }

    /** "asks for it in its turn: then it is there (it takes it in a later turn)"; "not sent is waited for" */
    private static void oneIsAskedForAtATime() {
        LendThreads x = Scenes.withWorks(2, 1);
        x.sends(0, 0, 1);
        x.sends(0, 0, 1);
        for (int i = 0; i < 3; i++) {
            x.wants(1, 0, true, 0);
        }
        x.loses(2);
        due("lost: not sent yet", 4, x.turn(1));
        x.turn(0);
        int[] dids = {5, 1, 5, 1, 4};
        int[] there = {1, 0, 1, 0, 0};
        int[] asked = {1, 1, 2, 2, 2};
        int[] got = {0, 1, 1, 2, 2};
        for (int i = 0; i < dids.length; i++) {
            due("lost: asks, takes, asks, takes, waits", dids[i], x.turn(1));
            due("lost: so many are there", there[i], x.mail(0, 1));
            due("lost: so many were asked for", asked[i], x.state(1, 4));
            due("lost: so many were got", got[i], x.state(1, 2));
        }
    }

    /** "all that it did is UNDONE": nothing at all; and acts of nine steps on copies of different steps. */
    private static void undoneIsNothingOrAll() {
        LendThreads x = new LendThreads();
        x.work(10, 9);
        x.work(1, 0);
        x.work(1, -1);
        x.wants(0, 0, false, 2);
        x.wants(0, 8, false, 7);
        x.wants(1, 0, false, 3);
        x.wants(2, 0, false, 2);
        x.wants(2, 0, false, 3);
        x.wants(2, 0, false, 7);
        CHECKS.turns("undone: work 2 leaves values", x, 2, 1, 1, 1, 2);
        CHECKS.turns("undone: nothing was done", x, 1, 1, 6);
        due("undone: it is free", LendThreads.NONE, x.has(3));
        due("undone: another one's value stays", 2, x.value(3));
        CHECKS.turns("undone: nine acts", x, 0, 1, 2, 2, 2, 2, 2, 2, 2, 2, 1, 2);
        due("undone: one act on copy 7", 2 * 3 + 80, x.value(7));
        due("undone: fails at its tenth step", 6, x.turn(0));
        due("undone: nine acts on copy 2", 2, x.value(2));
        due("undone: one act on copy 7", 2, x.value(7));
        CHECKS.log("undone: the log keeps its lines", x, 200, 0, 1, 2, 3, 4, 5, 6, 7, 8);
    }

    /** "STATES: 0 under way, 1 DONE, 2 FAILED, 3 ABORTED, 4 INTERRUPTED, 5 CLOSED." */
    private static void statesFromNoughtToFive() {
        int[] middle = {1, 2, 0, 3, 4, 0, 0, 0, 0, 0};
        int[] closed = {1, 2, 5, 3, 4, 5, 5, 5, 5, 5, 0};
        LendThreads x = Scenes.middle();
        for (int i = 0; i < middle.length; i++) {
            due("states: of work " + i, middle[i], x.state(i, 0));
        }
        LendThreads y = Scenes.closed();
        for (int i = 0; i < closed.length; i++) {
            due("states: closed, of work " + i, closed[i], y.state(i, 0));
        }
    }

    public static void main(String[] args) {
        theLastOf512Calls();
        theLastOf512CallsBehindRefusedOnes();
        eachCallToTheEnd();
        messagesOf512Calls();
        twelveWorks();
        tenCopies();
        oneStepAndTen();
        noWantsAndFour();
        noSendsAndTwo();
        valuesRunOver();
        valuesThatRanOverAreUndone();
        linesOfNoneOneAndEleven();
        theEndsOfALineLeave();
        freeButOthersStandInLine();
        wantedAgainWhileOthersStandInLine();
        asManyAreLostAsTold();
        oneIsAskedForAtATime();
        undoneIsNothingOrAll();
        statesFromNoughtToFive();
        CHECKS.end();
    }
}
