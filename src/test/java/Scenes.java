/** Objects with a past, made the same way each time; none has more than 80 calls behind it. */
final class Scenes {
    /** What WORKS of middle() are. */
    static final int DONE = 0;
    static final int FAILED = 1;
    static final int WAITS_FOR_FREE_COPY = 2;
    static final int ABORTED = 3;
    static final int INTERRUPTED = 4;
    static final int WAITS_FOR_MESSAGE = 5;
    static final int HAD_NO_TURN = 6;
    static final int WAITS_FOR_COPY = 7;
    static final int TOOK = 8;
    static final int ASKED = 9;
    static final int WORKS_IN_THE_MIDDLE = 10;

    private Scenes() { }

    static LendThreads empty() {
        return new LendThreads();
    }

    static LendThreads withWorks(int count, int steps) {
        LendThreads x = new LendThreads();
        for (int i = 0; i < count; i++) {
            x.work(steps, -1);
        }
        return x;
    }

    /** No room for a work more; step 0 of work 0 has no room for a want or a message more; nobody had a turn. */
    static LendThreads full() {
        LendThreads x = withWorks(12, 10);
        for (int i = 0; i < 4; i++) {
            x.wants(0, 0, false, i);
        }
        x.sends(0, 0, 1);
        x.sends(0, 0, 2);
        x.wants(11, 9, true, 0);
        x.loses(1);
        return x;
    }

    /**
     * One work for each thing that a work can be, but for CLOSED; two messages are told to be lost, and two of the
     * works that are under way are told to fail.
     */
    static LendThreads middle() {
        LendThreads x = new LendThreads();
        for (int i = 0; i < WORKS_IN_THE_MIDDLE; i++) {
            boolean fails = i == FAILED || i == HAD_NO_TURN || i == TOOK;
            x.work(i == DONE ? 1 : 2, fails ? 1 : -1);
        }
        doneSendsTwoAndTheFirstIsLost(x);
        x.wants(FAILED, 0, false, 1);
        x.wants(WAITS_FOR_FREE_COPY, 0, false, 2);
        x.wants(WAITS_FOR_FREE_COPY, 1, false, 3);
        x.wants(ABORTED, 0, false, 3);
        x.wants(ABORTED, 1, false, 2);
        x.wants(INTERRUPTED, 0, true, WAITS_FOR_COPY);
        x.wants(WAITS_FOR_MESSAGE, 0, false, 4);
        x.wants(WAITS_FOR_MESSAGE, 1, true, WAITS_FOR_COPY);
        x.wants(HAD_NO_TURN, 0, true, DONE);
        x.wants(WAITS_FOR_COPY, 0, false, 4);
        x.wants(TOOK, 0, false, 5);
        x.wants(ASKED, 0, true, DONE);
        turns(x, FAILED, 3);
        turns(x, WAITS_FOR_FREE_COPY, 2);
        turns(x, ABORTED, 3);
        turns(x, WAITS_FOR_FREE_COPY, 1);
        x.ring();
        turns(x, INTERRUPTED, 1);
        x.interrupt(INTERRUPTED);
        turns(x, WAITS_FOR_MESSAGE, 3);
        turns(x, WAITS_FOR_COPY, 1);
        turns(x, TOOK, 1);
        turns(x, ASKED, 1);
        x.loses(2);
        return x;
    }

    /** The middle, closed, with a work more that came behind the closing. */
    static LendThreads closed() {
        LendThreads x = middle();
        x.close();
        x.work(2, -1);
        return x;
    }

    private static void doneSendsTwoAndTheFirstIsLost(LendThreads x) {
        x.wants(DONE, 0, false, 0);
        x.sends(DONE, 0, ASKED);
        x.sends(DONE, 0, HAD_NO_TURN);
        x.loses(1);
        turns(x, DONE, 2);
    }

    private static void turns(LendThreads x, int work, int count) {
        for (int i = 0; i < count; i++) {
            x.turn(work);
        }
    }
}
