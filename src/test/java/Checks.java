/** Counts and prints the calls whose answer is not the one that is due. */
final class Checks {
    private int made = 0;
    private int wrong = 0;

    void due(String call, int want, int got) {
        made++;
        if (got != want) {
            wrong++;
            System.out.println(call + " answered " + got + ", due is " + want);
        }
    }

    void yes(String what, boolean holds) {
        due(what + " (1: so it is)", 1, holds ? 1 : 0);
    }

    /** value(copy) must throw IndexOutOfBoundsException, thrown by the class itself and not by the machine. */
    void valueThrows(String what, LendThreads x, int copy) {
        Class<?> thrown = null;
        try {
            x.value(copy);
        } catch (RuntimeException e) {
            thrown = e.getClass();
        }
        yes(what + ": value(" + copy + ") throws IndexOutOfBoundsException", thrown == IndexOutOfBoundsException.class);
    }

    /** Gives the same work so many turns, each of which must do what is told. */
    void turns(String what, LendThreads x, int work, int... dids) {
        for (int i = 0; i < dids.length; i++) {
            due(what + ": turn(" + work + "), the " + (i + 1) + ". one", dids[i], x.turn(work));
        }
    }

    /** state(work, 0), state(work, 1) and so on must be as told. */
    void states(String what, LendThreads x, int work, int... states) {
        for (int i = 0; i < states.length; i++) {
            due(what + ": state(" + work + ", " + i + ")", states[i], x.state(work, i));
        }
    }

    /** The copy's line must hold these works and no other one. */
    void line(String what, LendThreads x, int copy, int... works) {
        for (int i = 0; i < works.length; i++) {
            due(what + ": line(" + copy + ", " + i + ")", works[i], x.line(copy, i));
        }
        due(what + ": line(" + copy + ", " + works.length + ")", LendThreads.NONE, x.line(copy, works.length));
    }

    /** The log must hold these lines and no other one. */
    void log(String what, LendThreads x, int... lines) {
        for (int i = 0; i < lines.length; i++) {
            due(what + ": log(" + i + ")", lines[i], x.log(i));
        }
        due(what + ": log(" + lines.length + ")", LendThreads.NONE, x.log(lines.length));
    }

    void end() {
        System.out.println(made + " checks, " + wrong + " wrong");
        if (wrong != 0 || made == 0) {
            System.exit(1);
        }
    }
}
