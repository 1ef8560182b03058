/** Promises 12 to 17, the edges that they name. */
public final class LookingEdgesTest {
    private static final int LEAST = Integer.MIN_VALUE;
    private static final int GREATEST = Integer.MAX_VALUE;
    private static final Checks CHECKS = new Checks();
    private static final Twins EMPTY = new Twins(CHECKS, Scenes::empty);
    private static final Twins MIDDLE = new Twins(CHECKS, Scenes::middle);

    private static void due(String call, int want, int got) {
        CHECKS.due(call, want, got);
    }

    /** Promise 12, "NONE": no such work, and no such what. */
    private static void stateOfNone() {
        LendThreads x = Scenes.middle();
        due("12: below the first work", LendThreads.NONE, x.state(-1, 0));
        due("12: the first work", 1, x.state(0, 0));
        due("12: the last work", 0, x.state(9, 0));
        due("12: behind the last work", LendThreads.NONE, x.state(10, 0));
        due("12: below the first what", LendThreads.NONE, x.state(9, -1));
        due("12: the last what", 1, x.state(9, 4));
        due("12: behind the last what", LendThreads.NONE, x.state(9, 5));
        for (int wild : new int[] {LEAST, GREATEST}) {
            due("12: a wild work", LendThreads.NONE, x.state(wild, 0));
            due("12: a wild what", LendThreads.NONE, x.state(0, wild));
        }
        LendThreads y = Scenes.full();
        due("12: the twelfth work", 0, y.state(11, 0));
        due("12: there is no thirteenth", LendThreads.NONE, y.state(12, 0));
        EMPTY.refused("12: state(0, 0) of a new object", LendThreads.NONE, z -> z.state(0, 0));
        MIDDLE.refused("12: state(10, 0) of ten works", LendThreads.NONE, z -> z.state(10, 0));
        MIDDLE.refused("12: state(0, 5)", LendThreads.NONE, z -> z.state(0, 5));
    }

    /** Promise 12, each what of each work: what each is, and that looking changes nothing. */
    private static void stateOfEach() {
        int[][] states = {{1, 1, 0, 0, 0}, {2, 1, 0, 0, 0}, {0, 1, 0, 1, 0}, {3, 1, 0, 0, 0}, {4, 0, 0, 0, 0},
            {0, 1, 0, 1, 0}, {0, 0, 0, 0, 0}, {0, 0, 0, 0, 0}, {0, 0, 1, 1, 0}, {0, 0, 0, 0, 1}};
        LendThreads x = Scenes.middle();
        for (int i = 0; i < states.length; i++) {
            CHECKS.states("12: in the middle", x, i, states[i]);
        }
        for (int i = 0; i < states.length; i++) {
            int work = i;
            int what = i % 5;
            MIDDLE.refused("12: looking at state(" + work + ", " + what + ")", states[work][what],
                    y -> y.state(work, what));
        }
    }

    /** Promise 12, "2: how much of what that step wants it has got": none to four, and none of the next step. */
    private static void stateOfWhatItHasGot() {
        LendThreads x = Scenes.withWorks(1, 2);
        for (int copy = 0; copy < 4; copy++) {
            x.wants(0, 0, false, copy);
        }
        for (int got = 0; got < 4; got++) {
            due("12: so many", got, x.state(0, 2));
            x.turn(0);
        }
        due("12: all four", 4, x.state(0, 2));
        x.turn(0);
        CHECKS.states("12: the next step, four copies", x, 0, 0, 1, 0, 4, 0);
    }

    /** Promise 12, "4: how many messages it asked for": of four askings in a step. */
    private static void stateOfWhatItAskedFor() {
        LendThreads x = Scenes.withWorks(2, 2);
        for (int i = 0; i < 4; i++) {
            x.sends(0, i / 2, 1);
            x.wants(1, 0, true, 0);
        }
        x.loses(4);
        x.turn(0);
        x.turn(0);
        for (int asked = 0; asked < 4; asked++) {
            due("12: so many", asked, x.state(1, 4));
            CHECKS.turns("12: asks and takes", x, 1, 5, 1);
        }
        due("12: four", 4, x.state(1, 4));
        due("12: the sender asked for none", 0, x.state(0, 4));
        CHECKS.turns("12: acts", x, 1, 2);
        due("12: four behind the act", 4, x.state(1, 4));
    }

    /** Promise 13, "NONE if it is free, or there is none such" */
    private static void hasOfNone() {
        LendThreads x = Scenes.withWorks(12, 2);
        x.wants(0, 0, false, 9);
        x.wants(11, 0, false, 0);
        due("13: the first is free", LendThreads.NONE, x.has(0));
        due("13: the last is free", LendThreads.NONE, x.has(9));
        x.turn(0);
        x.turn(11);
        due("13: below the first copy", LendThreads.NONE, x.has(-1));
        due("13: the first copy, the last work", 11, x.has(0));
        due("13: the last copy, the first work", 0, x.has(9));
        due("13: behind the last copy", LendThreads.NONE, x.has(10));
        due("13: the least int", LendThreads.NONE, x.has(LEAST));
        due("13: the greatest int", LendThreads.NONE, x.has(GREATEST));
        EMPTY.refused("13: has(0) of a new object", LendThreads.NONE, y -> y.has(0));
        MIDDLE.refused("13: has(10)", LendThreads.NONE, y -> y.has(10));
        MIDDLE.refused("13: looking at has(4)", Scenes.WAITS_FOR_MESSAGE, y -> y.has(4));
    }

    /** Promise 14, "The i-th work, from 0 on, in a copy's LINE; NONE" */
    private static void lineOfNone() {
        LendThreads x = Scenes.withWorks(12, 1);
        for (int i = 0; i < 12; i++) {
            x.wants(i, 0, false, i < 6 ? 0 : 9);
            x.turn(i);
        }
        due("14: below the first copy", LendThreads.NONE, x.line(-1, 0));
        due("14: the first copy", 1, x.line(0, 0));
        due("14: the last copy", 7, x.line(9, 0));
        due("14: behind the last copy", LendThreads.NONE, x.line(10, 0));
        due("14: before the first place", LendThreads.NONE, x.line(9, -1));
        due("14: the last place", 11, x.line(9, 4));
        due("14: behind the last place", LendThreads.NONE, x.line(9, 5));
        due("14: behind the last place of the first copy", LendThreads.NONE, x.line(0, 5));
        due("14: a place that another copy's line could hold", LendThreads.NONE, x.line(0, 9 * 12));
        for (int wild : new int[] {LEAST, GREATEST}) {
            due("14: a wild copy", LendThreads.NONE, x.line(wild, 0));
            due("14: a wild place", LendThreads.NONE, x.line(9, wild));
        }
        due("14: nobody stands there", LendThreads.NONE, x.line(4, 0));
        EMPTY.refused("14: line(0, 0) of a new object", LendThreads.NONE, y -> y.line(0, 0));
        MIDDLE.refused("14: line(4, 1), behind the last", LendThreads.NONE, y -> y.line(4, 1));
        MIDDLE.refused("14: looking at line(4, 0)", Scenes.WAITS_FOR_COPY, y -> y.line(4, 0));
    }

    /** Promise 15, "IndexOutOfBoundsException if there is none such." */
    private static void valueOfNone() {
        LendThreads x = Scenes.withWorks(3, 1);
        x.wants(2, 0, false, 0);
        x.wants(2, 0, false, 9);
        due("15: 0 at first", 0, x.value(0) + x.value(9));
        x.run();
        CHECKS.valueThrows("15: below the first", x, -1);
        due("15: the first", 2, x.value(0));
        due("15: the last", 2, x.value(9));
        CHECKS.valueThrows("15: behind the last", x, 10);
        CHECKS.valueThrows("15: the least int", x, LEAST);
        CHECKS.valueThrows("15: the greatest int", x, GREATEST);
        due("15: it goes on behind it", 0, x.value(1));
        EMPTY.valueRefused("15: value(-1) of a new object", -1);
        MIDDLE.valueRefused("15: value(10)", 10);
        MIDDLE.refused("15: looking at value(4)", 5, y -> y.value(4));
    }

    /** Promise 16, "Line i of THE LOG, from 0 on .. NONE": no line, one, and behind the last. */
    private static void logOfNone() {
        LendThreads x = Scenes.withWorks(12, 10);
        due("16: no line yet", LendThreads.NONE, x.log(0));
        x.turn(11);
        due("16: before the first", LendThreads.NONE, x.log(-1));
        due("16: the first, 100 times the work and the step", 1100, x.log(0));
        due("16: behind the last", LendThreads.NONE, x.log(1));
        due("16: the least int", LendThreads.NONE, x.log(LEAST));
        due("16: the greatest int", LendThreads.NONE, x.log(GREATEST));
        CHECKS.turns("16: nine steps more", x, 11, 2, 2, 2, 2, 2, 2, 2, 2, 2);
        due("16: the greatest line", 1109, x.log(9));
        x.turn(0);
        due("16: the least line", 0, x.log(10));
        EMPTY.refused("16: log(0) of a new object", LendThreads.NONE, y -> y.log(0));
        MIDDLE.refused("16: log(5), behind the last", LendThreads.NONE, y -> y.log(5));
        MIDDLE.refused("16: looking at log(4)", 500, y -> y.log(4));
    }

    /** Promise 16, "(the first 300 are told)": 299 lines, 300, 301; acts go on behind them. */
    private static void logOfThreeHundred() {
        LendThreads x = actsNineTimesAndWaits();
        for (int i = 0; i < 33; i++) {
            x.run();
            x.interrupt(0);
            x.again(0);
        }
        due("16: 297 lines", 8, x.log(296));
        CHECKS.turns("16: two more", x, 0, 2, 2);
        due("16: the 299th", 1, x.log(298));
        due("16: no 300th yet", LendThreads.NONE, x.log(299));
        CHECKS.turns("16: one more", x, 0, 2);
        due("16: the 300th", 2, x.log(299));
        due("16: no 301st", LendThreads.NONE, x.log(300));
        CHECKS.turns("16: one more", x, 0, 2);
        due("16: the 300th stays", 2, x.log(299));
        due("16: the 301st is not told", LendThreads.NONE, x.log(300));
        due("16: the first stays", 0, x.log(0));
        due("16: the steps go on", 5, x.run());
        due("16: no 306th", LendThreads.NONE, x.log(305));
    }

    /** A step that is no line that is told acts all the same: values, messages and the end of the work. */
    private static void actsBehindTheLog() {
        LendThreads x = actsNineTimesAndWaits();
        for (int i = 0; i < 34; i++) {
            x.run();
            x.interrupt(0);
            x.again(0);
        }
        x.work(2, -1);
        x.wants(2, 0, false, 9);
        x.sends(2, 1, 1);
        CHECKS.turns("16: takes, acts, acts", x, 2, 1, 2, 2, 0);
        due("16: its value", 2 * 3 + 12, x.value(9));
        due("16: its message", 1, x.mail(2, 1));
        due("16: it is done", 1, x.state(2, 0));
        due("16: the 300th line", 2, x.log(299));
        due("16: no 301st", LendThreads.NONE, x.log(300));
    }

    /** Work 0 acts in nine steps and waits in the tenth for work 1, which waits for it and never acts. */
    private static LendThreads actsNineTimesAndWaits() {
        LendThreads x = new LendThreads();
        x.work(10, -1);
        x.work(1, -1);
        x.wants(0, 9, true, 1);
        x.wants(1, 0, true, 0);
        return x;
    }

    /** Promise 17, "RANGE": no such sender, no such receiver, and one that is not another one. */
    private static void mailOfNone() {
        LendThreads x = Scenes.middle();
        due("17: below the first sender", LendThreads.RANGE, x.mail(-1, 0));
        due("17: the first sender, the last receiver", 1, x.mail(0, 9));
        due("17: the last sender, the first receiver", 0, x.mail(9, 0));
        due("17: behind the last sender", LendThreads.RANGE, x.mail(10, 0));
        due("17: below the first receiver", LendThreads.RANGE, x.mail(0, -1));
        due("17: behind the last receiver", LendThreads.RANGE, x.mail(0, 10));
        due("17: no such sender, no such receiver", LendThreads.RANGE, x.mail(10, 10));
        due("17: to itself", LendThreads.RANGE, x.mail(0, 0));
        for (int wild : new int[] {LEAST, GREATEST}) {
            due("17: a wild sender", LendThreads.RANGE, x.mail(wild, 0));
            due("17: a wild receiver", LendThreads.RANGE, x.mail(0, wild));
        }
        LendThreads y = Scenes.full();
        due("17: the twelfth work", 0, y.mail(11, 0));
        due("17: to the twelfth work", 0, y.mail(0, 11));
        due("17: there is no thirteenth", LendThreads.RANGE, y.mail(12, 0));
        due("17: none to it", LendThreads.RANGE, y.mail(0, 12));
        EMPTY.refused("17: mail(0, 1) of a new object", LendThreads.RANGE, z -> z.mail(0, 1));
        MIDDLE.refused("17: mail(0, 10) of ten works", LendThreads.RANGE, z -> z.mail(0, 10));
        MIDDLE.refused("17: looking at mail(0, 9)", 1, z -> z.mail(0, 9));
    }

    /** Promise 17, "are there, and not taken": none, sent, lost, asked for, taken; between the ends of the works. */
    private static void mailThatIsThere() {
        LendThreads x = Scenes.withWorks(12, 2);
        x.sends(11, 0, 10);
        x.sends(11, 1, 10);
        x.sends(0, 0, 11);
        x.wants(10, 0, true, 11);
        x.wants(10, 0, true, 11);
        due("17: none is sent", 0, x.mail(11, 10));
        x.turn(11);
        due("17: one is sent", 1, x.mail(11, 10));
        due("17: none the other way", 0, x.mail(10, 11));
        x.loses(1);
        x.turn(11);
        due("17: one is lost", 1, x.mail(11, 10));
        CHECKS.turns("17: takes", x, 10, 1);
        due("17: one is taken", 0, x.mail(11, 10));
        CHECKS.turns("17: asks", x, 10, 5);
        due("17: one is there, not taken", 1, x.mail(11, 10));
        CHECKS.turns("17: takes", x, 10, 1);
        due("17: both are taken", 0, x.mail(11, 10));
        x.turn(0);
        due("17: from the first to the last", 1, x.mail(0, 11));
        due("17: from the last to the first", 0, x.mail(11, 0));
    }

    public static void main(String[] args) {
        stateOfNone();
        stateOfEach();
        stateOfWhatItHasGot();
        stateOfWhatItAskedFor();
        hasOfNone();
        lineOfNone();
        valueOfNone();
        logOfNone();
        logOfThreeHundred();
        actsBehindTheLog();
        mailOfNone();
        mailThatIsThere();
        CHECKS.end();
    }
}
