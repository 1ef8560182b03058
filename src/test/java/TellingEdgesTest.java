/** Promises 1 to 5, the edges that they name. */
public final class TellingEdgesTest {
    private static final Checks CHECKS = new Checks();
    private static final Twins EMPTY = new Twins(CHECKS, Scenes::empty);
    private static final Twins FULL = new Twins(CHECKS, Scenes::full);
    private static final Twins MIDDLE = new Twins(CHECKS, Scenes::middle);
    private static final Twins CLOSED = new Twins(CHECKS, Scenes::closed);

    private static void due(String call, int want, int got) {
        CHECKS.due(call, want, got);
    }

    /** Promise 1, "No works": what each call that names a work answers. */
    private static void newWithoutWorks() {
        LendThreads x = new LendThreads();
        due("1: wants", LendThreads.NONE, x.wants(0, 0, false, 0));
        due("1: sends", LendThreads.NONE, x.sends(0, 0, 0));
        due("1: turn", 0, x.turn(0));
        due("1: run", 0, x.run());
        due("1: ring", LendThreads.NONE, x.ring());
        due("1: interrupt", LendThreads.NONE, x.interrupt(0));
        due("1: again", LendThreads.NONE, x.again(0));
        due("1: close", 0, x.close());
        due("1: state", LendThreads.NONE, x.state(0, 0));
        due("1: log", LendThreads.NONE, x.log(0));
        due("1: mail", LendThreads.RANGE, x.mail(0, 1));
        due("1: no message is told to be lost", 1, mailOfOneSent(x));
    }

    private static int mailOfOneSent(LendThreads x) {
        x.work(1, -1);
        x.work(1, -1);
        x.sends(0, 0, 1);
        x.turn(0);
        return x.mail(0, 1);
    }

    /** Promise 1, "all copies are free": the first and the last of them too. */
    private static void newWithFreeCopies() {
        LendThreads x = new LendThreads();
        for (int copy = 0; copy < 10; copy++) {
            due("1: free", LendThreads.NONE, x.has(copy));
            due("1: nobody stands in line", LendThreads.NONE, x.line(copy, 0));
            due("1: its value", 0, x.value(copy));
        }
        x.work(1, -1);
        x.wants(0, 0, false, 0);
        x.wants(0, 0, false, 9);
        CHECKS.turns("1: they can be taken at once", x, 0, 1, 1);
    }

    /** Promise 2, "RANGE (steps 1 .. 10": 0 and 11 are not taken. */
    private static void stepsOfAWork() {
        LendThreads x = new LendThreads();
        due("2: no step", LendThreads.RANGE, x.work(0, -1));
        due("2: one step", 0, x.work(1, -1));
        due("2: ten steps", 1, x.work(10, -1));
        due("2: eleven steps", LendThreads.RANGE, x.work(11, -1));
        due("2: below none", LendThreads.RANGE, x.work(-1, -1));
        due("2: the least int", LendThreads.RANGE, x.work(Integer.MIN_VALUE, -1));
        due("2: the greatest int", LendThreads.RANGE, x.work(Integer.MAX_VALUE, -1));
        due("2: one step has step 0", 1, x.wants(0, 0, false, 0));
        due("2: one step has no step 1", LendThreads.NONE, x.wants(0, 1, false, 0));
        due("2: ten steps have step 9", 1, x.wants(1, 9, false, 0));
        due("2: ten steps have no step 10", LendThreads.NONE, x.wants(1, 10, false, 0));
    }

    /** Promise 2, "the step -1 or one of its own)" */
    private static void stepToFailAt() {
        LendThreads x = new LendThreads();
        due("2: below -1", LendThreads.RANGE, x.work(2, -2));
        due("2: at none", 0, x.work(2, -1));
        due("2: at its first", 1, x.work(2, 0));
        due("2: at its last", 2, x.work(2, 1));
        due("2: behind its last", LendThreads.RANGE, x.work(2, 2));
        due("2: of one step, at its own", 3, x.work(1, 0));
        due("2: of one step, behind it", LendThreads.RANGE, x.work(1, 1));
        due("2: of ten steps, at the last", 4, x.work(10, 9));
        due("2: of ten steps, behind it", LendThreads.RANGE, x.work(10, 10));
        due("2: the least int", LendThreads.RANGE, x.work(10, Integer.MIN_VALUE));
        due("2: the greatest int", LendThreads.RANGE, x.work(10, Integer.MAX_VALUE));
        due("2: both are wrong", LendThreads.RANGE, x.work(0, 0));
        CHECKS.turns("2: fails at none", x, 0, 2, 2, 0);
        CHECKS.turns("2: fails at its first", x, 1, 6, 0);
        CHECKS.turns("2: fails at its last", x, 2, 2, 6, 0);
        CHECKS.turns("2: fails at its only one", x, 3, 6, 0);
        CHECKS.turns("2: fails at the tenth", x, 4, 2, 2, 2, 2, 2, 2, 2, 2, 2, 6, 0);
    }

    /** Promise 2, "FULL": the twelfth is taken, the thirteenth is not, be the others over or not. */
    private static void roomForWorks() {
        LendThreads x = Scenes.withWorks(11, 1);
        due("2: the twelfth", 11, x.work(1, -1));
        due("2: the thirteenth", LendThreads.FULL, x.work(1, -1));
        x.run();
        due("2: all are done, and there is no room", LendThreads.FULL, x.work(1, -1));
        x.close();
        due("2: nor behind a closing", LendThreads.FULL, x.work(1, -1));
        due("2: RANGE is told before FULL", LendThreads.RANGE, x.work(11, -1));
    }

    /** Promise 2, "RANGE", "FULL": nothing is changed */
    private static void refusedWorksChangeNothing() {
        EMPTY.refused("2: work(0, -1) of a new object", LendThreads.RANGE, x -> x.work(0, -1));
        MIDDLE.refused("2: work(11, 3)", LendThreads.RANGE, x -> x.work(11, 3));
        MIDDLE.refused("2: work(5, 5)", LendThreads.RANGE, x -> x.work(5, 5));
        MIDDLE.refused("2: work(5, -2)", LendThreads.RANGE, x -> x.work(5, -2));
        FULL.refused("2: work(1, 0) without room", LendThreads.FULL, x -> x.work(1, 0));
    }

    /** Promise 3, "NONE (the work, the step)" */
    private static void wantsOfNone() {
        LendThreads x = new LendThreads();
        x.work(1, -1);
        x.work(10, -1);
        due("3: below the first work", LendThreads.NONE, x.wants(-1, 0, false, 0));
        due("3: the first work", 1, x.wants(0, 0, false, 0));
        due("3: the last work", 1, x.wants(1, 0, false, 0));
        due("3: behind the last work", LendThreads.NONE, x.wants(2, 0, false, 0));
        due("3: below the first step", LendThreads.NONE, x.wants(1, -1, false, 0));
        due("3: the last step", 1, x.wants(1, 9, false, 0));
        due("3: behind the last step", LendThreads.NONE, x.wants(1, 10, false, 0));
        due("3: a step that only another work has", LendThreads.NONE, x.wants(0, 1, false, 0));
        due("3: another one's last step", LendThreads.NONE, x.wants(0, 9, false, 0));
        due("3: far behind the last step", LendThreads.NONE, x.wants(1, Integer.MAX_VALUE, false, 0));
        LendThreads y = Scenes.full();
        due("3: the twelfth work", 1, y.wants(11, 0, false, 0));
        due("3: there is no thirteenth", LendThreads.NONE, y.wants(12, 0, false, 0));
    }

    /** Promise 3, "RANGE (the copy" */
    private static void wantsNoCopy() {
        LendThreads x = Scenes.withWorks(1, 1);
        due("3: below the first copy", LendThreads.RANGE, x.wants(0, 0, false, -1));
        due("3: the first copy", 1, x.wants(0, 0, false, 0));
        due("3: the last copy", 2, x.wants(0, 0, false, 9));
        due("3: behind the last copy", LendThreads.RANGE, x.wants(0, 0, false, 10));
        due("3: a number that a work could have", LendThreads.RANGE, x.wants(0, 0, false, 11));
        CHECKS.turns("3: takes both", x, 0, 1, 1, 2);
    }

    /** Promise 3, "the other work, itself)" */
    private static void wantsAMessageOfNone() {
        LendThreads x = Scenes.withWorks(3, 1);
        due("3: below the first work", LendThreads.RANGE, x.wants(1, 0, true, -1));
        due("3: the first work", 1, x.wants(1, 0, true, 0));
        due("3: itself", LendThreads.RANGE, x.wants(1, 0, true, 1));
        due("3: the last work", 2, x.wants(1, 0, true, 2));
        due("3: behind the last work", LendThreads.RANGE, x.wants(1, 0, true, 3));
        due("3: itself, of the first work", LendThreads.RANGE, x.wants(0, 0, true, 0));
        due("3: itself, of the last work", LendThreads.RANGE, x.wants(2, 0, true, 2));
        x.work(1, -1);
        due("3: now there is one behind it", 3, x.wants(1, 0, true, 3));
        LendThreads y = Scenes.full();
        due("3: the twelfth work", 1, y.wants(1, 0, true, 11));
        due("3: there is no thirteenth", LendThreads.RANGE, y.wants(1, 0, true, 12));
        due("3: the twelfth from itself", LendThreads.RANGE, y.wants(11, 0, true, 11));
        due("3: the twelfth from the eleventh", 1, y.wants(11, 0, true, 10));
    }

    /** Promises 3 and 4, "STATE if the work has had a turn": one of each kind, and none. */
    private static void toldBehindATurn() {
        LendThreads x = Scenes.middle();
        due("3: it had no turn", 2, x.wants(Scenes.HAD_NO_TURN, 0, false, 0));
        due("4: it had no turn", 1, x.sends(Scenes.HAD_NO_TURN, 0, 0));
        for (int i = 0; i < Scenes.WORKS_IN_THE_MIDDLE; i++) {
            if (i != Scenes.HAD_NO_TURN) {
                due("3: work " + i + " had a turn", LendThreads.STATE, x.wants(i, 0, false, 0));
                due("4: work " + i + " had a turn", LendThreads.STATE, x.sends(i, 0, i == 0 ? 1 : 0));
            }
        }
        x.turn(Scenes.HAD_NO_TURN);
        due("3: now it had one", LendThreads.STATE, x.wants(Scenes.HAD_NO_TURN, 0, false, 0));
        due("4: now it had one", LendThreads.STATE, x.sends(Scenes.HAD_NO_TURN, 0, 0));
    }

    /** The first turn of a work is one that takes, acts, waits, asks or fails: each alone is a turn that it had. */
    private static void toldBehindTheFirstTurn() {
        for (int did = 1; did <= 6; did++) {
            LendThreads x = firstTurnOfWork2(did);
            due("3: it had no turn", 1, x.wants(2, 1, false, 8));
            due("4: it had no turn", 1, x.sends(2, 1, 0));
            due("6: its first turn", did, x.turn(2));
            due("3: its first turn did " + did, LendThreads.STATE, x.wants(2, 1, false, 8));
            due("4: its first turn did " + did, LendThreads.STATE, x.sends(2, 1, 0));
        }
        LendThreads y = Scenes.withWorks(2, 1);
        y.wants(0, 0, true, 1);
        y.wants(1, 0, true, 0);
        y.run();
        due("3: a turn in a run", LendThreads.STATE, y.wants(0, 0, false, 8));
        due("4: a turn in a run", LendThreads.STATE, y.sends(1, 0, 0));
    }

    /** Work 1 has copy 0; work 0 has sent work 2 a message that is lost. */
    private static LendThreads firstTurnOfWork2(int did) {
        LendThreads x = new LendThreads();
        x.work(1, -1);
        x.work(1, -1);
        x.work(2, did == 6 ? 0 : -1);
        x.sends(0, 0, 2);
        x.wants(1, 0, false, 0);
        x.loses(1);
        x.turn(0);
        x.turn(1);
        if (did == 1 || did == 3) {
            x.wants(2, 0, false, did == 1 ? 1 : 0);
        }
        if (did == 4 || did == 5) {
            x.wants(2, 0, true, did == 4 ? 1 : 0);
        }
        return x;
    }

    /** Promise 3, "how many it has" and "FULL" */
    private static void roomForWants() {
        LendThreads x = Scenes.withWorks(2, 2);
        due("3: one", 1, x.wants(0, 0, false, 0));
        due("3: two", 2, x.wants(0, 0, false, 0));
        due("3: three", 3, x.wants(0, 0, true, 1));
        due("3: four", 4, x.wants(0, 0, false, 9));
        due("3: no fifth copy", LendThreads.FULL, x.wants(0, 0, false, 1));
        due("3: no fifth message", LendThreads.FULL, x.wants(0, 0, true, 1));
        due("3: the other step has room", 1, x.wants(0, 1, false, 1));
        due("3: the other work has room", 1, x.wants(1, 0, false, 1));
        due("3: sends have room of their own", 1, x.sends(0, 0, 1));
    }

    /** Promise 3, the refusals in their order */
    private static void wantsRefusedForTwoReasons() {
        LendThreads x = Scenes.full();
        due("3: NONE and RANGE", LendThreads.NONE, x.wants(12, 0, false, 10));
        due("3: NONE and RANGE", LendThreads.NONE, x.wants(0, 10, true, 0));
        due("3: RANGE and FULL", LendThreads.RANGE, x.wants(0, 0, false, 10));
        due("3: RANGE and FULL", LendThreads.RANGE, x.wants(0, 0, true, 0));
        x.turn(0);
        due("3: NONE and STATE", LendThreads.NONE, x.wants(0, 10, false, 0));
        due("3: RANGE and STATE", LendThreads.RANGE, x.wants(0, 1, false, -1));
        due("3: STATE and FULL", LendThreads.STATE, x.wants(0, 0, false, 1));
    }

    /** Promise 3, "NONE", "RANGE", "STATE", "FULL": nothing is changed */
    private static void refusedWantsChangeNothing() {
        EMPTY.refused("3: wants of a new object", LendThreads.NONE, x -> x.wants(0, 0, false, 0));
        FULL.refused("3: no such work", LendThreads.NONE, x -> x.wants(12, 0, false, 5));
        FULL.refused("3: no such step", LendThreads.NONE, x -> x.wants(3, 10, false, 5));
        FULL.refused("3: a step below 0", LendThreads.NONE, x -> x.wants(3, -1, false, 5));
        FULL.refused("3: no such copy", LendThreads.RANGE, x -> x.wants(3, 0, false, 10));
        FULL.refused("3: a copy below 0", LendThreads.RANGE, x -> x.wants(3, 0, false, -1));
        FULL.refused("3: itself", LendThreads.RANGE, x -> x.wants(3, 0, true, 3));
        FULL.refused("3: no such other work", LendThreads.RANGE, x -> x.wants(3, 0, true, 12));
        FULL.refused("3: no room for a copy", LendThreads.FULL, x -> x.wants(0, 0, false, 5));
        FULL.refused("3: no room for a message", LendThreads.FULL, x -> x.wants(0, 0, true, 5));
        MIDDLE.refused("3: failed", LendThreads.STATE, x -> x.wants(Scenes.FAILED, 0, false, 6));
        MIDDLE.refused("3: waits", LendThreads.STATE, x -> x.wants(Scenes.WAITS_FOR_COPY, 1, false, 6));
        MIDDLE.refused("3: took", LendThreads.STATE, x -> x.wants(Scenes.TOOK, 0, true, 0));
        CLOSED.refused("3: closed", LendThreads.STATE, x -> x.wants(Scenes.TOOK, 0, false, 6));
    }

    /** Promise 4, "NONE .. likewise" */
    private static void sendsOfNone() {
        LendThreads x = new LendThreads();
        x.work(1, -1);
        x.work(10, -1);
        due("4: below the first work", LendThreads.NONE, x.sends(-1, 0, 0));
        due("4: the first work", 1, x.sends(0, 0, 1));
        due("4: the last work", 1, x.sends(1, 0, 0));
        due("4: behind the last work", LendThreads.NONE, x.sends(2, 0, 0));
        due("4: below the first step", LendThreads.NONE, x.sends(1, -1, 0));
        due("4: the last step", 1, x.sends(1, 9, 0));
        due("4: behind the last step", LendThreads.NONE, x.sends(1, 10, 0));
        due("4: a step that only another work has", LendThreads.NONE, x.sends(0, 1, 1));
        due("4: another one's last step", LendThreads.NONE, x.sends(0, 9, 1));
        due("4: far behind the last step", LendThreads.NONE, x.sends(1, Integer.MAX_VALUE, 0));
        LendThreads y = Scenes.full();
        due("4: the twelfth work", 1, y.sends(11, 0, 0));
        due("4: there is no thirteenth", LendThreads.NONE, y.sends(12, 0, 0));
    }

    /** Promise 4, "RANGE .. likewise" */
    private static void sendsToNone() {
        LendThreads x = Scenes.withWorks(3, 3);
        due("4: below the first work", LendThreads.RANGE, x.sends(1, 0, -1));
        due("4: the first work", 1, x.sends(1, 0, 0));
        due("4: itself", LendThreads.RANGE, x.sends(1, 1, 1));
        due("4: the last work", 2, x.sends(1, 0, 2));
        due("4: behind the last work", LendThreads.RANGE, x.sends(1, 1, 3));
        due("4: itself, of the first work", LendThreads.RANGE, x.sends(0, 0, 0));
        due("4: itself, of the last work", LendThreads.RANGE, x.sends(2, 0, 2));
        x.work(1, -1);
        due("4: now there is one behind it", 1, x.sends(1, 1, 3));
        LendThreads y = Scenes.full();
        due("4: the twelfth work", 1, y.sends(1, 0, 11));
        due("4: there is no thirteenth", LendThreads.RANGE, y.sends(1, 0, 12));
        due("4: the twelfth to itself", LendThreads.RANGE, y.sends(11, 0, 11));
    }

    /** Promise 4, "how many it sends" and "FULL likewise" */
    private static void roomForSends() {
        LendThreads x = Scenes.withWorks(3, 2);
        due("4: one", 1, x.sends(0, 0, 1));
        due("4: two", 2, x.sends(0, 0, 2));
        due("4: no third", LendThreads.FULL, x.sends(0, 0, 1));
        due("4: the other step has room", 1, x.sends(0, 1, 1));
        due("4: the other work has room", 1, x.sends(1, 0, 2));
        due("4: wants have room of their own", 1, x.wants(0, 0, false, 1));
    }

    /** Promise 4, the refusals in their order */
    private static void sendsRefusedForTwoReasons() {
        LendThreads x = Scenes.full();
        due("4: NONE and RANGE", LendThreads.NONE, x.sends(12, 0, 12));
        due("4: NONE and RANGE", LendThreads.NONE, x.sends(0, 10, 0));
        due("4: RANGE and FULL", LendThreads.RANGE, x.sends(0, 0, 0));
        x.turn(0);
        due("4: NONE and STATE", LendThreads.NONE, x.sends(0, 10, 1));
        due("4: RANGE and STATE", LendThreads.RANGE, x.sends(0, 1, 12));
        due("4: STATE and FULL", LendThreads.STATE, x.sends(0, 0, 1));
    }

    /** Promise 4, "NONE", "RANGE", "STATE", "FULL": nothing is changed */
    private static void refusedSendsChangeNothing() {
        EMPTY.refused("4: sends of a new object", LendThreads.NONE, x -> x.sends(0, 0, 1));
        FULL.refused("4: no such work", LendThreads.NONE, x -> x.sends(12, 0, 5));
        FULL.refused("4: no such step", LendThreads.NONE, x -> x.sends(3, 10, 5));
        FULL.refused("4: a step below 0", LendThreads.NONE, x -> x.sends(3, -1, 5));
        FULL.refused("4: itself", LendThreads.RANGE, x -> x.sends(3, 0, 3));
        FULL.refused("4: no such receiver", LendThreads.RANGE, x -> x.sends(3, 0, 12));
        FULL.refused("4: a receiver below 0", LendThreads.RANGE, x -> x.sends(3, 0, -1));
        FULL.refused("4: no room", LendThreads.FULL, x -> x.sends(0, 0, 5));
        MIDDLE.refused("4: interrupted", LendThreads.STATE, x -> x.sends(Scenes.INTERRUPTED, 0, 0));
        MIDDLE.refused("4: took", LendThreads.STATE, x -> x.sends(Scenes.TOOK, 0, 0));
        CLOSED.refused("4: closed", LendThreads.STATE, x -> x.sends(Scenes.TOOK, 0, 0));
    }

    /** Promise 5, "0 .. 100" and "RANGE" */
    private static void losesSoMany() {
        LendThreads x = new LendThreads();
        due("5: below 0", LendThreads.RANGE, x.loses(-1));
        due("5: none", 1, x.loses(0));
        due("5: a hundred", 1, x.loses(100));
        due("5: a hundred and one", LendThreads.RANGE, x.loses(101));
        due("5: the least int", LendThreads.RANGE, x.loses(Integer.MIN_VALUE));
        due("5: the greatest int", LendThreads.RANGE, x.loses(Integer.MAX_VALUE));
    }

    /** Promise 5, "(in place of what was told)": a smaller number, a greater one, none, what is left of it. */
    private static void losesInPlaceOfWhatWasTold() {
        due("5: 1 in place of 3: of 4 sent are there", 3, thereOfFour(3, 1));
        due("5: 3 in place of 1", 1, thereOfFour(1, 3));
        due("5: 0 in place of 4", 4, thereOfFour(4, 0));
        due("5: 4 in place of 0", 0, thereOfFour(0, 4));
        due("5: 2 in place of 2 is not 4", 2, thereOfFour(2, 2));
        due("5: 100 in place of 100", 0, thereOfFour(100, 100));
        LendThreads x = sendsFour();
        x.loses(2);
        x.turn(0);
        x.loses(2);
        x.turn(0);
        x.turn(0);
        due("5: 1 sent and lost, then 2 in place of the 1 that is left", 0, x.mail(0, 1));
        x.turn(0);
        due("5: the fourth is there", 1, x.mail(0, 1));
    }

    private static int thereOfFour(int told, int toldThen) {
        LendThreads x = sendsFour();
        x.loses(told);
        x.loses(toldThen);
        x.run();
        return x.mail(0, 1);
    }

    private static LendThreads sendsFour() {
        LendThreads x = Scenes.withWorks(2, 4);
        for (int step = 0; step < 4; step++) {
            x.sends(0, step, 1);
        }
        return x;
    }

    /** Promise 5, "RANGE": nothing is changed */
    private static void refusedLosesChangesNothing() {
        EMPTY.refused("5: loses(101) of a new object", LendThreads.RANGE, x -> x.loses(101));
        FULL.refused("5: loses(-1)", LendThreads.RANGE, x -> x.loses(-1));
        FULL.refused("5: loses(101)", LendThreads.RANGE, x -> x.loses(101));
        MIDDLE.refused("5: loses(-1), of two", LendThreads.RANGE, x -> x.loses(-1));
        LendThreads x = sendsFour();
        x.loses(3);
        x.loses(101);
        x.loses(-1);
        x.run();
        due("5: 3 are lost as they were told to be", 1, x.mail(0, 1));
    }

    public static void main(String[] args) {
        newWithoutWorks();
        newWithFreeCopies();
        stepsOfAWork();
        stepToFailAt();
        roomForWorks();
        refusedWorksChangeNothing();
        wantsOfNone();
        wantsNoCopy();
        wantsAMessageOfNone();
        toldBehindATurn();
        toldBehindTheFirstTurn();
        roomForWants();
        wantsRefusedForTwoReasons();
        refusedWantsChangeNothing();
        sendsOfNone();
        sendsToNone();
        roomForSends();
        sendsRefusedForTwoReasons();
        refusedSendsChangeNothing();
        losesSoMany();
        losesInPlaceOfWhatWasTold();
        refusedLosesChangesNothing();
        CHECKS.end();
    }
}
