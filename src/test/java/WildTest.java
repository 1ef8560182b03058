import java.util.List;
import java.util.function.Supplier;

/** Every call with numbers from all over, in every scene: nothing is thrown but what promise 15 says. */
public final class WildTest {
    private static final int[] WILD = {Integer.MIN_VALUE, Integer.MIN_VALUE + 1, -13, -3, -2, -1, 0, 1, 2, 4, 5, 9, 10,
        11, 12, 13, 99, 100, 101, 120, 143, 144, 299, 300, 301, 1 << 16, Integer.MAX_VALUE - 1, Integer.MAX_VALUE};
    private static final List<Supplier<LendThreads>> SCENES =
            List.of(Scenes::empty, Scenes::full, Scenes::middle, Scenes::closed);
    private static final Checks CHECKS = new Checks();

    private interface Call {
        int on(LendThreads x);
    }

    /** In each scene the call is made twice, and once behind a run; nothing may be thrown. */
    private static void call(String what, int least, Call call) {
        for (Supplier<LendThreads> scene : SCENES) {
            LendThreads x = scene.get();
            String thrown = "";
            int answer = 0;
            try {
                answer = call.on(x);
                call.on(x);
                x.run();
                call.on(x);
            } catch (RuntimeException e) {
                thrown = e.toString();
            }
            CHECKS.yes(what + " throws " + thrown, thrown.isEmpty());
            CHECKS.yes(what + " answers " + answer, answer >= least);
        }
    }

    private static void callsWithOneNumber(int a) {
        call("loses(" + a + ")", LendThreads.RANGE, x -> x.loses(a));
        call("turn(" + a + ")", 0, x -> x.turn(a));
        call("interrupt(" + a + ")", LendThreads.STATE, x -> x.interrupt(a));
        call("again(" + a + ")", LendThreads.STATE, x -> x.again(a));
        call("has(" + a + ")", LendThreads.NONE, x -> x.has(a));
        call("log(" + a + ")", LendThreads.NONE, x -> x.log(a));
        if (a >= 0 && a <= 9) {
            call("value(" + a + ")", 0, x -> x.value(a));
            return;
        }
        for (Supplier<LendThreads> scene : SCENES) {
            CHECKS.valueThrows("15", scene.get(), a);
        }
    }

    private static void callsWithTwoNumbers(int a, int b) {
        String of = "(" + a + ", " + b + ")";
        call("work" + of, LendThreads.FULL, x -> x.work(a, b));
        call("state" + of, LendThreads.NONE, x -> x.state(a, b));
        call("line" + of, LendThreads.NONE, x -> x.line(a, b));
        call("mail" + of, LendThreads.RANGE, x -> x.mail(a, b));
    }

    private static void callsWithThreeNumbers(int a, int b, int c) {
        String of = "(" + a + ", " + b + ", " + c + ")";
        call("wants a copy" + of, LendThreads.FULL, x -> x.wants(a, b, false, c));
        call("wants a message" + of, LendThreads.FULL, x -> x.wants(a, b, true, c));
        call("sends" + of, LendThreads.FULL, x -> x.sends(a, b, c));
    }

    public static void main(String[] args) {
        for (int a : WILD) {
            callsWithOneNumber(a);
            for (int b : WILD) {
                callsWithTwoNumbers(a, b);
                for (int c : WILD) {
                    callsWithThreeNumbers(a, b, c);
                }
            }
        }
        CHECKS.end();
    }
}
