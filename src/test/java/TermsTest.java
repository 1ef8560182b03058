/** "What it is" and "Terms", in the document's order: each method is for the words that its comment quotes. */
public final class TermsTest {
    private static final Checks CHECKS = new Checks();

    private static void due(String call, int want, int got) {
        CHECKS.due(call, want, got);
    }

    /**
     * "Works of clerks, stations and harvesters that take turns by a schedule: copies that one has at a time, waiting
     * in line, rings that are broken, acts that fail and are undone, interruptions, messages that are lost, ends."
     */
    private static void oneHasACopyAtATime() {
        LendThreads x = Scenes.withWorks(12, 2);
        for (int i = 0; i < 12; i++) {
            x.wants(i, 0, false, 5);
        }
        due("schedule: the first one that has a turn takes it", 1, x.turn(7));
        for (int i = 0; i < 12; i++) {
            due("schedule: no other one takes it", i == 7 ? 2 : 3, x.turn(i));
            due("schedule: one has it", 7, x.has(5));
            due("schedule: one alone", i == 7 ? 1 : 0, x.state(i, 3));
        }
        due("schedule: the acts are in the order of the turns", 24 - 1, x.run());
        CHECKS.log("schedule: one behind the other", x, 700, 701, 0, 1, 100, 101, 200, 201, 300, 301, 400, 401,
                500, 501, 600, 601, 800, 801, 900, 901, 1000, 1001, 1100, 1101);
    }

    /**
     * "Each step has WANTS, at most 4, in the order in which they are told: a copy that it takes, or a message from
     * another work that it takes; then it ACTS; then it SENDS, to at most 2 works, in order."
     */
    private static void takesThenActsThenSends() {
        LendThreads x = Scenes.withWorks(4, 2);
        x.sends(0, 0, 1);
        x.turn(0);
        x.wants(1, 0, false, 7);
        x.wants(1, 0, true, 0);
        x.wants(1, 0, false, 2);
        x.sends(1, 0, 3);
        x.sends(1, 0, 2);
        due("steps: takes the copy", 1, x.turn(1));
        due("steps: it is the one that was told first", 1, x.has(7));
        due("steps: takes the message", 1, x.turn(1));
        due("steps: it is taken", 0, x.mail(0, 1));
        due("steps: not yet what was told third", LendThreads.NONE, x.has(2));
        due("steps: takes the other copy", 1, x.turn(1));
        CHECKS.log("steps: it has not acted yet", x, 0);
        due("steps: nor sent", 0, x.mail(1, 2) + x.mail(1, 3));
        x.loses(1);
        due("steps: acts and sends", 2, x.turn(1));
        CHECKS.log("steps: it acted", x, 0, 100);
        due("steps: the first of two that it sent is lost", 0, x.mail(1, 3));
        due("steps: the second is there", 1, x.mail(1, 2));
        due("steps: then comes the next step", 1, x.state(1, 1));
    }

    /** "A copy that a work has taken it HAS until the work is over": through steps that do not want it. */
    private static void hasItUntilItIsOver() {
        LendThreads x = Scenes.withWorks(2, 4);
        x.wants(1, 0, false, 5);
        x.wants(1, 2, false, 6);
        int[] dids = {1, 2, 2, 1, 2};
        for (int did : dids) {
            due("has: a turn", did, x.turn(1));
            due("has: it has it still", 1, x.has(5));
        }
        due("has: the other one too", 1, x.has(6));
        due("has: it is done", 2, x.turn(1));
        due("has: it is over", LendThreads.NONE, x.has(5));
        due("has: the other one too", LendThreads.NONE, x.has(6));
    }

    /** "until the work is over": be it DONE, FAILED, ABORTED, INTERRUPTED or CLOSED. */
    private static void hasNothingBehindEachEnd() {
        LendThreads x = Scenes.middle();
        int[] copies = {0, 1, 3};
        for (int copy : copies) {
            due("has: done, failed, aborted: copy " + copy, LendThreads.NONE, x.has(copy));
        }
        due("has: it waits", Scenes.WAITS_FOR_MESSAGE, x.has(4));
        x.interrupt(Scenes.WAITS_FOR_MESSAGE);
        due("has: interrupted", LendThreads.NONE, x.has(4));
        due("has: it took", Scenes.TOOK, x.has(5));
        x.close();
        due("has: closed", LendThreads.NONE, x.has(5));
    }

    /** "(it may want it again: then it has it)" */
    private static void wantedAgain() {
        LendThreads x = Scenes.withWorks(1, 2);
        x.wants(0, 0, false, 5);
        x.wants(0, 0, false, 5);
        x.wants(0, 1, false, 5);
        CHECKS.turns("again: in its step and in the next", x, 0, 1, 1, 2, 1);
        due("again: it has one copy", 1, x.state(0, 3));
        CHECKS.line("again: it does not wait for itself", x, 5);
        due("again: it is done", 2, x.turn(0));
        due("again: an act changes it once", 10, x.value(5));
    }

    /**
     * "A copy that somebody else has is waited for: the work stands in the copy's LINE, from the turn on in which it
     * wanted it, till it gets it"
     */
    private static void standsInLineTillItGetsIt() {
        LendThreads x = Scenes.withWorks(2, 2);
        x.wants(0, 0, false, 5);
        x.turn(0);
        x.wants(1, 0, false, 6);
        x.wants(1, 0, false, 5);
        CHECKS.line("line: nobody wanted it in a turn yet", x, 5);
        due("line: takes what it wants first", 1, x.turn(1));
        CHECKS.line("line: it did not want it in this turn", x, 5);
        for (int i = 0; i < 3; i++) {
            due("line: it is waited for", 3, x.turn(1));
            CHECKS.line("line: it stands there, once", x, 5, 1);
            due("line: somebody else has it", 0, x.has(5));
            due("line: it has got one thing", 1, x.state(1, 2));
        }
        x.turn(0);
        x.turn(0);
        CHECKS.line("line: free, and it stands there still", x, 5, 1);
        due("line: it gets it", 1, x.turn(1));
        CHECKS.line("line: it stands there no more", x, 5);
        due("line: it has it", 1, x.has(5));
    }

    /**
     * "who comes first gets it: a copy that is free, but for which others stand in LINE before it, is not got."
     */
    private static void whoComesFirstGetsIt() {
        LendThreads x = Scenes.withWorks(4, 1);
        for (int i = 0; i < 4; i++) {
            x.wants(i, 0, false, 5);
        }
        x.turn(3);
        x.turn(2);
        x.turn(0);
        CHECKS.line("first: 2 came first", x, 5, 2, 0);
        x.turn(3);
        due("first: it is free", LendThreads.NONE, x.has(5));
        due("first: 2 stands before 0", 3, x.turn(0));
        due("first: 2 and 0 stand before 1", 3, x.turn(1));
        CHECKS.line("first: who came last stands last", x, 5, 2, 0, 1);
        due("first: nobody stands before 2", 1, x.turn(2));
        CHECKS.turns("first: it is done", x, 2, 2);
        due("first: 0 stands before 1", 3, x.turn(1));
        due("first: nobody stands before 0", 1, x.turn(0));
    }

    /**
     * "TO ACT, of step k: each copy that the work HAS, by numbers, gets a new VALUE: the old one times 3, and the
     * work's number and 10 times k more": no other copy does.
     */
    private static void actsOnEachCopyThatItHas() {
        LendThreads x = Scenes.withWorks(8, 3);
        x.wants(7, 0, false, 9);
        x.wants(7, 0, false, 0);
        x.wants(7, 2, false, 4);
        x.wants(3, 0, false, 6);
        CHECKS.turns("act: work 3, step 0", x, 3, 1, 2);
        due("act: the work's number", 3, x.value(6));
        CHECKS.turns("act: work 7, step 0", x, 7, 1, 1, 2);
        due("act: the work's number", 7, x.value(9));
        due("act: each copy", 7, x.value(0));
        due("act: one that it does not have yet", 0, x.value(4));
        due("act: one that another work has", 3, x.value(6));
        CHECKS.turns("act: work 7, step 1", x, 7, 2);
        due("act: the old one times 3, the number, 10 times 1", 7 * 3 + 7 + 10, x.value(9));
        due("act: each copy", 38, x.value(0));
        CHECKS.turns("act: work 7, step 2", x, 7, 1, 2);
        due("act: the old one times 3, the number, 10 times 2", 38 * 3 + 7 + 20, x.value(9));
        due("act: each copy", 141, x.value(0));
        due("act: the one that it got last", 27, x.value(4));
        due("act: one that nobody has", 0, x.value(1));
        due("act: one that another work has", 3, x.value(6));
        CHECKS.turns("act: work 3, step 1", x, 3, 2);
        due("act: one that was free all the time", 0, x.value(1));
        due("act: one that was set free stays as it is", 141, x.value(0));
    }

    /** "what it was is kept.": of each act, while other works act and end in between. */
    private static void whatItWasIsKept() {
        LendThreads x = new LendThreads();
        x.work(3, 2);
        x.work(3, -1);
        x.work(1, -1);
        x.wants(0, 0, false, 5);
        x.wants(0, 1, false, 6);
        x.wants(1, 0, false, 7);
        x.wants(1, 2, false, 5);
        for (int copy = 5; copy < 8; copy++) {
            x.wants(2, 0, false, copy);
        }
        CHECKS.turns("kept: work 2 leaves values and is done", x, 2, 1, 1, 1, 2);
        CHECKS.turns("kept: work 0, step 0", x, 0, 1, 2);
        CHECKS.turns("kept: work 1, step 0", x, 1, 1, 2);
        CHECKS.turns("kept: work 0, step 1", x, 0, 1, 2);
        CHECKS.turns("kept: work 1, step 1, then it waits for copy 5", x, 1, 2, 3);
        due("kept: two acts of work 0", (2 * 3 + 0) * 3 + 10, x.value(5));
        due("kept: one act of work 0", 2 * 3 + 10, x.value(6));
        due("kept: two acts of work 1", (2 * 3 + 1) * 3 + 11, x.value(7));
        CHECKS.turns("kept: work 0 fails", x, 0, 6);
        due("kept: what it was before two acts", 2, x.value(5));
        due("kept: what it was before one act", 2, x.value(6));
        due("kept: work 1 is not undone", 32, x.value(7));
        due("kept: work 1 is interrupted", 1, x.interrupt(1));
        due("kept: what it was before two acts", 2, x.value(7));
        due("kept: what was undone stays", 2, x.value(5));
    }

    /** "Each step that acted is a line of THE LOG: work and step.": no other turn is. */
    private static void theLogHasTheStepsThatActed() {
        LendThreads x = new LendThreads();
        x.work(2, -1);
        x.work(2, 1);
        x.sends(0, 0, 1);
        x.wants(0, 0, false, 5);
        x.wants(1, 0, false, 5);
        x.wants(1, 0, true, 0);
        x.loses(1);
        CHECKS.turns("log: takes", x, 0, 1);
        CHECKS.turns("log: waits for a copy", x, 1, 3);
        CHECKS.log("log: nobody acted", x);
        CHECKS.turns("log: acts, is done, is over", x, 0, 2, 2, 0);
        CHECKS.log("log: two steps", x, 0, 1);
        CHECKS.turns("log: takes, asks, takes", x, 1, 1, 5, 1);
        CHECKS.log("log: two steps still", x, 0, 1);
        CHECKS.turns("log: acts, fails", x, 1, 2, 6);
        CHECKS.log("log: what failed did not act", x, 0, 1, 100);
        x.again(1);
        CHECKS.turns("log: waits for a message, as it took the other one", x, 1, 1, 4);
        CHECKS.log("log: no line more", x, 0, 1, 100);
    }

    /** "A MESSAGE from a work to another one: one for each time it was sent" */
    private static void oneMessageForEachTimeItWasSent() {
        LendThreads x = new LendThreads();
        x.work(3, 2);
        x.work(1, -1);
        x.work(1, -1);
        x.sends(0, 0, 1);
        x.sends(0, 0, 1);
        x.sends(0, 1, 2);
        x.sends(0, 1, 1);
        CHECKS.turns("messages: step 0", x, 0, 2);
        due("messages: twice to the same", 2, x.mail(0, 1));
        due("messages: none to another one", 0, x.mail(0, 2));
        due("messages: none back", 0, x.mail(1, 0));
        CHECKS.turns("messages: step 1, then it fails", x, 0, 2, 6);
        due("messages: a third", 3, x.mail(0, 1));
        due("messages: one to each", 1, x.mail(0, 2));
        x.again(0);
        CHECKS.turns("messages: all steps again", x, 0, 2, 2, 2);
        due("messages: three more", 6, x.mail(0, 1));
        due("messages: one more", 2, x.mail(0, 2));
    }

    /** "it may be LOST on its way (as many as are told to be, of those sent next)": not of those sent before. */
    private static void lostOnItsWay() {
        LendThreads x = Scenes.withWorks(3, 4);
        for (int step = 0; step < 4; step++) {
            x.sends(0, step, 1);
        }
        x.sends(2, 0, 1);
        x.turn(0);
        x.loses(2);
        due("lost: what was sent before is there", 1, x.mail(0, 1));
        x.turn(0);
        due("lost: the next one", 1, x.mail(0, 1));
        x.turn(2);
        due("lost: and the next one, whoever sends it", 0, x.mail(2, 1));
        x.turn(0);
        due("lost: no third", 2, x.mail(0, 1));
        x.turn(0);
        due("lost: nor a fourth", 3, x.mail(0, 1));
    }

    /**
     * "A work that wants a message that was sent and LOST asks for it in its turn: then it is there (it takes it in
     * a later turn)."
     */
    private static void asksForALostOne() {
        LendThreads x = Scenes.withWorks(3, 1);
        x.sends(0, 0, 1);
        x.sends(0, 0, 2);
        x.wants(1, 0, false, 5);
        x.wants(1, 0, true, 0);
        x.loses(2);
        x.turn(0);
        due("lost: it does not want the message next", 1, x.turn(1));
        due("lost: it asked for none", 0, x.state(1, 4));
        due("lost: it asks", 5, x.turn(1));
        due("lost: it asked for one", 1, x.state(1, 4));
        due("lost: it is there", 1, x.mail(0, 1));
        due("lost: it has not taken it", 1, x.state(1, 2));
        due("lost: another one's is lost still", 0, x.mail(0, 2));
        due("lost: it takes it", 1, x.turn(1));
        due("lost: it is taken", 0, x.mail(0, 1));
        due("lost: it acts", 2, x.turn(1));
    }

    /** "One that was not sent is waited for.": though another work sent one, or it was sent to another one. */
    private static void waitsForOneThatWasNotSent() {
        LendThreads x = Scenes.withWorks(4, 1);
        x.sends(0, 0, 3);
        x.sends(0, 0, 2);
        x.sends(1, 0, 2);
        x.sends(3, 0, 1);
        x.wants(2, 0, true, 3);
        x.loses(1);
        x.turn(0);
        x.turn(1);
        x.turn(3);
        CHECKS.turns("messages: waits", x, 2, 4, 4);
        due("messages: it asked for none", 0, x.state(2, 4));
        due("messages: work 0's is not taken", 1, x.mail(0, 2));
        due("messages: nor is work 1's", 1, x.mail(1, 2));
        due("messages: nor is the one to work 1", 1, x.mail(3, 1));
    }

    /**
     * "A TURN of a work, what it does, one of these: 1 takes the copy, or message, that it wants next; 2 ACTS, when it
     * has all that its step wants, and SENDS, and goes to the next step, or, behind the last one, it is DONE: all that
     * it HAS is free; 3 waits (for a copy); 4 waits (for a message); 5 asks for a LOST one; 6 FAILS; 0 nothing: it is
     * over, or there is none such."
     */
    private static void whatATurnDoes() {
        LendThreads x = new LendThreads();
        x.work(1, -1);
        x.work(2, 1);
        x.sends(0, 0, 1);
        x.wants(0, 0, false, 5);
        x.wants(1, 0, false, 5);
        x.wants(1, 0, true, 0);
        x.sends(1, 0, 0);
        due("turn: 1 takes the copy", 1, x.turn(0));
        due("turn: 3 waits (for a copy)", 3, x.turn(1));
        x.loses(1);
        due("turn: 2 acts and sends", 2, x.turn(0));
        due("turn: behind the last step it is done", 1, x.state(0, 0));
        due("turn: all that it has is free", LendThreads.NONE, x.has(5));
        due("turn: 1 takes the copy", 1, x.turn(1));
        due("turn: 5 asks for a lost one", 5, x.turn(1));
        due("turn: 1 takes the message", 1, x.turn(1));
        due("turn: 2 acts, when it has all that its step wants", 2, x.turn(1));
        due("turn: and sends", 1, x.mail(1, 0));
        due("turn: and goes to the next step", 1, x.state(1, 1));
        due("turn: with what it has", 1, x.has(5));
        due("turn: 6 fails", 6, x.turn(1));
        due("turn: 0 nothing: it is over", 0, x.turn(1));
        due("turn: 0 nothing: it is over, as it is done", 0, x.turn(0));
        due("turn: 0 nothing: there is none such", 0, x.turn(2));
        x.again(1);
        CHECKS.turns("turn: takes the copy; 4 waits (for a message)", x, 1, 1, 4);
    }

    /**
     * "A work that is told to FAIL at a step does so instead of acting: all that it did is UNDONE, the last first:
     * each copy's VALUE that it changed is what it was before that; THE LOG keeps its lines; messages stay as they
     * are; all that it HAS is free; it stands in no LINE. It is FAILED then."
     */
    private static void failsAndIsUndone() {
        LendThreads x = new LendThreads();
        x.work(3, 2);
        x.work(2, -1);
        x.work(1, -1);
        x.wants(2, 0, false, 5);
        CHECKS.turns("undone: work 2 leaves a value", x, 2, 1, 2);
        x.wants(0, 0, false, 5);
        x.wants(0, 0, false, 7);
        x.wants(0, 1, false, 6);
        x.wants(0, 2, true, 1);
        x.sends(0, 0, 1);
        x.sends(0, 1, 1);
        x.sends(0, 1, 2);
        x.sends(1, 0, 0);
        x.wants(1, 0, true, 0);
        x.wants(1, 1, false, 6);
        x.loses(1);
        CHECKS.turns("undone: work 0 acts twice", x, 0, 1, 1, 2, 1, 2);
        due("undone: what both acts made of copy 5", (2 * 3 + 0) * 3 + 10, x.value(5));
        due("undone: of copy 6", 10, x.value(6));
        due("undone: of copy 7", 10, x.value(7));
        CHECKS.turns("undone: work 1 takes a message, acts, waits for copy 6", x, 1, 1, 2, 3);
        CHECKS.turns("undone: it takes what its step wants and fails instead of acting", x, 0, 1, 6);
        due("undone: what it was before it, not 0", 2, x.value(5));
        due("undone: what it was before it", 0, x.value(6));
        due("undone: what it was before it", 0, x.value(7));
        CHECKS.log("undone: the log keeps its lines", x, 200, 0, 1, 100);
        due("undone: the message that it sent stays", 1, x.mail(0, 2));
        due("undone: the one that was taken stays taken", 0, x.mail(0, 1));
        due("undone: the one that it took stays taken", 0, x.mail(1, 0));
        for (int copy = 5; copy < 8; copy++) {
            due("undone: copy " + copy + " is free", LendThreads.NONE, x.has(copy));
        }
        due("undone: it has none", 0, x.state(0, 3));
        CHECKS.line("undone: who waits for it stands where it stood", x, 6, 1);
        due("undone: it is failed", 2, x.state(0, 0));
        x.again(0);
        CHECKS.turns("undone: begun again, its value is made anew", x, 0, 1, 1, 2);
        due("undone: as if it had not acted", 2 * 3, x.value(5));
    }

    /** "messages stay as they are": one that is lost stays lost, to be asked for. */
    private static void lostMessagesStayAsTheyAre() {
        LendThreads x = new LendThreads();
        x.work(2, 1);
        x.work(2, -1);
        x.sends(0, 0, 1);
        x.wants(1, 0, true, 0);
        x.wants(1, 1, true, 0);
        x.loses(1);
        CHECKS.turns("undone: sends, and fails", x, 0, 2, 6);
        due("undone: it is lost still", 0, x.mail(0, 1));
        CHECKS.turns("undone: it is asked for, and taken; no other one was sent", x, 1, 5, 1, 2, 4);
        x.interrupt(1);
        x.again(1);
        CHECKS.turns("undone: what was taken is not there again", x, 1, 4);
    }

    /** "it stands in no LINE": of one that is ABORTED, INTERRUPTED or CLOSED, for only these can stand in one. */
    private static void standsInNoLine() {
        LendThreads x = Scenes.withWorks(3, 2);
        x.wants(0, 0, false, 0);
        x.wants(0, 1, false, 1);
        x.wants(1, 0, false, 1);
        x.wants(1, 1, false, 0);
        x.wants(2, 0, false, 0);
        x.run();
        CHECKS.line("undone: 2 and 1 wait", x, 0, 2, 1);
        CHECKS.line("undone: 0 waits", x, 1, 0);
        due("undone: aborted", 1, x.ring());
        CHECKS.line("undone: 1 stands there no more", x, 0, 2);
        due("undone: interrupted", 1, x.interrupt(2));
        CHECKS.line("undone: 2 stands there no more", x, 0);
        due("undone: closed", 1, x.close());
        CHECKS.line("undone: 0 stands there no more", x, 1);
    }

    /** "STATES: 0 under way, 1 DONE, 2 FAILED, 3 ABORTED, 4 INTERRUPTED, 5 CLOSED." */
    private static void states() {
        LendThreads x = new LendThreads();
        x.work(1, -1);
        x.work(1, 0);
        x.work(2, -1);
        x.work(2, -1);
        x.wants(2, 0, false, 5);
        x.wants(2, 1, false, 6);
        x.wants(3, 0, false, 6);
        x.wants(3, 1, false, 5);
        for (int i = 0; i < 4; i++) {
            due("states: under way at first", 0, x.state(i, 0));
        }
        x.run();
        due("states: done", 1, x.state(0, 0));
        due("states: failed", 2, x.state(1, 0));
        due("states: under way, though it waits", 0, x.state(2, 0));
        x.ring();
        due("states: aborted", 3, x.state(3, 0));
        x.interrupt(2);
        due("states: interrupted", 4, x.state(2, 0));
        x.again(1);
        due("states: under way again", 0, x.state(1, 0));
        x.close();
        due("states: closed", 5, x.state(1, 0));
    }

    /**
     * "A RING: works each of which waits for a copy that the next one HAS, the last one's the first one HAS (for it
     * does not matter who else stands in LINE)."
     */
    private static void aRing() {
        LendThreads x = Scenes.withWorks(5, 2);
        int[] wanted = {1, 2, 0, 1, 0};
        for (int i = 0; i < 5; i++) {
            if (i < 3) {
                x.wants(i, 0, false, i);
            }
            x.wants(i, 1, false, wanted[i]);
        }
        for (int i = 0; i < 3; i++) {
            CHECKS.turns("ring: has its copy", x, i, 1, 2);
        }
        CHECKS.turns("ring: 3 stands in line for copy 1", x, 3, 2, 3);
        CHECKS.turns("ring: 4 stands in line for copy 0", x, 4, 2, 3);
        CHECKS.turns("ring: 0 waits for what 1 has", x, 0, 3);
        CHECKS.turns("ring: 1 waits for what 2 has", x, 1, 3);
        due("ring: 2 does not wait, so there is none", LendThreads.NONE, x.ring());
        CHECKS.turns("ring: 2 waits for what 0 has", x, 2, 3);
        CHECKS.line("ring: 3 stands before 0", x, 1, 3, 0);
        CHECKS.line("ring: 4 stands before 2", x, 0, 4, 2);
        due("ring: 0, 1 and 2, be who it may in line", 2, x.ring());
        due("ring: 3 and 4 wait, but nobody waits for what they have", LendThreads.NONE, x.ring());
    }

    /**
     * "`NONE = -1`: None such." "`RANGE = -2`: A number that can't be." "`STATE = -3`: Not in this state."
     * "`FULL = -4`: No room."
     */
    private static void constants() {
        LendThreads x = Scenes.full();
        due("NONE", -1, x.again(12));
        due("RANGE", -2, x.work(0, 0));
        due("STATE", -3, x.again(0));
        due("FULL", -4, x.work(1, -1));
    }

    public static void main(String[] args) {
        oneHasACopyAtATime();
        takesThenActsThenSends();
        hasItUntilItIsOver();
        hasNothingBehindEachEnd();
        wantedAgain();
        standsInLineTillItGetsIt();
        whoComesFirstGetsIt();
        actsOnEachCopyThatItHas();
        whatItWasIsKept();
        theLogHasTheStepsThatActed();
        oneMessageForEachTimeItWasSent();
        lostOnItsWay();
        asksForALostOne();
        waitsForOneThatWasNotSent();
        whatATurnDoes();
        failsAndIsUndone();
        lostMessagesStayAsTheyAre();
        standsInNoLine();
        states();
        aRing();
        constants();
        CHECKS.end();
    }
}
