/** Promises 12 to 17: what can be looked at. */
public final class LookingTest {
    private static final int[] WILD = {Integer.MIN_VALUE, -1000, -1, 12, 1000, Integer.MAX_VALUE};
    private static final Checks CHECKS = new Checks();

    private static void due(String call, int want, int got) {
        CHECKS.due(call, want, got);
    }

    /**
     * Promise 12: "Of a work, what 0: its STATE, 1: the step that is next, 2: how much of what that step wants it
     * has got, 3: how many copies it HAS, 4: how many messages it asked for; NONE."
     */
    private static void state() {
        LendThreads x = new LendThreads();
        x.work(2, -1);
        x.work(3, 1);
        x.sends(0, 1, 1);
        x.wants(1, 0, false, 2);
        x.wants(1, 0, false, 2);
        x.wants(1, 0, true, 0);
        x.wants(1, 1, false, 3);
        x.loses(1);
        CHECKS.states("12: new", x, 1, 0, 0, 0, 0, 0);
        x.turn(1);
        CHECKS.states("12: has taken", x, 1, 0, 0, 1, 1, 0);
        x.turn(1);
        CHECKS.states("12: has it already", x, 1, 0, 0, 2, 1, 0);
        x.turn(1);
        CHECKS.states("12: waits", x, 1, 0, 0, 2, 1, 0);
        x.turn(0);
        x.turn(0);
        CHECKS.states("12: done", x, 0, 1, 2, 0, 0, 0);
        x.turn(1);
        CHECKS.states("12: has asked", x, 1, 0, 0, 2, 1, 1);
        x.turn(1);
        x.turn(1);
        CHECKS.states("12: has acted", x, 1, 0, 1, 0, 1, 1);
        x.turn(1);
        CHECKS.states("12: has two", x, 1, 0, 1, 1, 2, 1);
        x.turn(1);
        CHECKS.states("12: failed", x, 1, 2, 1, 1, 0, 1);
        x.again(1);
        CHECKS.states("12: again", x, 1, 0, 0, 0, 0, 1);
        x.close();
        CHECKS.states("12: closed", x, 1, 5, 0, 0, 0, 1);
        noStates(x);
    }

    /** Promise 12: "NONE" */
    private static void noStates(LendThreads x) {
        due("12: no such what", LendThreads.NONE, x.state(0, 5));
        due("12: no such work", LendThreads.NONE, x.state(2, 0));
        for (int wild : WILD) {
            due("12: wild work", LendThreads.NONE, x.state(wild, 0));
            due("12: wild what", LendThreads.NONE, x.state(0, wild));
        }
    }

    /** Promise 13: "Who HAS a copy; NONE if it is free, or there is none such." */
    private static void has() {
        LendThreads x = new LendThreads();
        for (int i = 0; i < 10; i++) {
            x.work(2, -1);
            x.wants(i, 0, false, 9 - i);
        }
        for (int i = 0; i < 10; i++) {
            due("13: free", LendThreads.NONE, x.has(9 - i));
            x.turn(i);
            due("13: who has it", i, x.has(9 - i));
        }
        due("13: no such copy", LendThreads.NONE, x.has(10));
        for (int wild : WILD) {
            due("13: wild copy", LendThreads.NONE, x.has(wild));
        }
        x.run();
        due("13: free again", LendThreads.NONE, x.has(0));
    }

    /** Promise 14: "The i-th work, from 0 on, in a copy's LINE; NONE." */
    private static void line() {
        LendThreads x = new LendThreads();
        for (int i = 0; i < 12; i++) {
            x.work(1, -1);
            x.wants(i, 0, false, 9);
        }
        for (int i = 11; i >= 0; i--) {
            x.turn(i);
        }
        for (int i = 0; i < 11; i++) {
            due("14: all the others, as they came", 10 - i, x.line(9, i));
        }
        due("14: behind the last", LendThreads.NONE, x.line(9, 11));
        due("14: another copy's line", LendThreads.NONE, x.line(8, 0));
        due("14: no such copy", LendThreads.NONE, x.line(10, 0));
        for (int wild : WILD) {
            due("14: wild copy", LendThreads.NONE, x.line(wild, 0));
            due("14: wild place", LendThreads.NONE, x.line(9, wild));
        }
        x.interrupt(8);
        due("14: one in the middle left", 9, x.line(9, 1));
        due("14: the next moved up", 7, x.line(9, 2));
        due("14: it is shorter", LendThreads.NONE, x.line(9, 10));
        x.again(8);
        x.turn(8);
        due("14: it comes last now", 8, x.line(9, 10));
        x.close();
        due("14: all have left", LendThreads.NONE, x.line(9, 0));
    }

    /** Promise 15: "A copy's VALUE. IndexOutOfBoundsException if there is none such." */
    private static void value() {
        LendThreads x = new LendThreads();
        for (int copy = 0; copy < 10; copy++) {
            due("15: 0 at first", 0, x.value(copy));
        }
        CHECKS.valueThrows("15", x, 10);
        for (int wild : WILD) {
            CHECKS.valueThrows("15", x, wild);
        }
        x.work(1, -1);
        x.work(1, -1);
        x.work(2, -1);
        x.wants(2, 0, false, 9);
        x.wants(2, 0, false, 0);
        x.run();
        due("15: copy 9", 2 * 3 + 2 + 10, x.value(9));
        due("15: copy 0", 18, x.value(0));
        due("15: copy 1", 0, x.value(1));
    }

    /** Promise 16: "Line i of THE LOG, from 0 on (the first 300 are told), 100 times the work and the step; NONE." */
    private static void log() {
        LendThreads x = new LendThreads();
        for (int i = 0; i < 12; i++) {
            x.work(10, -1);
        }
        x.run();
        for (int i = 0; i < 120; i++) {
            due("16: line " + i, 100 * (i % 12) + i / 12, x.log(i));
        }
        due("16: behind the last", LendThreads.NONE, x.log(120));
        for (int wild : new int[] {Integer.MIN_VALUE, -1, 300, Integer.MAX_VALUE}) {
            due("16: wild line", LendThreads.NONE, x.log(wild));
        }
    }

    /** Promise 16: "(the first 300 are told)": work 0 acts in nine steps and waits in the tenth, 34 times over. */
    private static void logOfMoreThanIsTold() {
        LendThreads x = new LendThreads();
        x.work(10, -1);
        x.work(1, -1);
        x.wants(0, 9, true, 1);
        for (int i = 0; i < 34; i++) {
            due("16: nine steps", i == 0 ? 10 : 9, x.run());
            x.interrupt(0);
            x.again(0);
        }
        due("16: line 0", 0, x.log(0));
        due("16: line 1 is the other work's", 100, x.log(1));
        due("16: line 299", (299 - 1) % 9, x.log(299));
        due("16: line 300 is not told", LendThreads.NONE, x.log(300));
        due("16: nor is 301", LendThreads.NONE, x.log(301));
    }

    /** Promise 17: "How many messages from a work to another one are there, and not taken; RANGE." */
    private static void mail() {
        LendThreads x = new LendThreads();
        x.work(2, -1);
        x.work(1, -1);
        due("17: none sent", 0, x.mail(0, 1));
        due("17: no such receiver", LendThreads.RANGE, x.mail(0, 2));
        due("17: no such sender", LendThreads.RANGE, x.mail(2, 0));
        due("17: itself is not another one", LendThreads.RANGE, x.mail(1, 1));
        for (int wild : WILD) {
            due("17: wild receiver", LendThreads.RANGE, x.mail(0, wild));
            due("17: wild sender", LendThreads.RANGE, x.mail(wild, 0));
        }
        x.sends(0, 0, 1);
        x.sends(0, 0, 1);
        x.sends(0, 1, 1);
        x.wants(1, 0, true, 0);
        x.turn(0);
        due("17: two", 2, x.mail(0, 1));
        due("17: none the other way", 0, x.mail(1, 0));
        x.turn(1);
        due("17: one is taken", 1, x.mail(0, 1));
        x.loses(1);
        x.turn(0);
        due("17: one that is lost is not there", 1, x.mail(0, 1));
        x.close();
        due("17: messages stay", 1, x.mail(0, 1));
    }

    public static void main(String[] args) {
        state();
        has();
        line();
        value();
        log();
        logOfMoreThanIsTold();
        mail();
        CHECKS.end();
    }
}
