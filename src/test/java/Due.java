import java.util.ArrayList;
import java.util.List;
import java.util.function.Consumer;
import java.util.function.ToLongFunction;

/** What the tests share: comparing answers, counting wrong ones, and looking whether a call changed anything. */
final class Due {
    /** No answer of the class: stands for the exception that kept() throws. */
    static final long THROWN = Long.MIN_VALUE;

    private static int wrong = 0;

    private Due() {
    }

    static void is(String call, long got, long want) {
        if (got != want) {
            wrong++;
            System.out.println(call + " answered " + got + ", due is " + want);
        }
    }

    static void isTrue(String what, boolean holds) {
        if (!holds) {
            wrong++;
            System.out.println("does not hold: " + what);
        }
    }

    /** The octet, or THROWN for exactly the exception that the document names. */
    static long kept(StartSleep x, int block, int i) {
        try {
            return x.kept(block, i);
        } catch (RuntimeException e) {
            return e.getClass() == ArrayIndexOutOfBoundsException.class ? THROWN : THROWN + 1;
        }
    }

    /** The mode, by a step that takes no time. */
    static int mode(StartSleep x) {
        return x.step(x.time(0));
    }

    /** A call has this answer, and an object on which it was made goes on like one on which it was not. */
    static void changesNothing(String call, Consumer<StartSleep> before, ToLongFunction<StartSleep> made, long want) {
        StartSleep called = new StartSleep();
        StartSleep spared = new StartSleep();
        before.accept(called);
        before.accept(spared);
        is(call, made.applyAsLong(called), want);
        List<Long> after = goingOn(called);
        List<Long> without = goingOn(spared);
        for (int n = 0; n < without.size(); n++) {
            is("after " + call + ", going on, row " + n, after.get(n), without.get(n));
        }
    }

    static void end() {
        System.out.println(wrong == 0 ? "all answers are as due" : wrong + " answers are not as due");
        if (wrong != 0) {
            System.exit(1);
        }
    }

    // Looks, lets time pass in pieces that fall between and on the ends of what takes time, releases all users so
    // that working rows are saved and can be seen, and starts again so that parts and banks can be seen too.
    private static List<Long> goingOn(StartSleep x) {
        List<Long> rows = new ArrayList<>();
        look(x, rows);
        long[] pieces = {0, 1, 3, 1, 10, 5, 30, 50};
        for (long piece : pieces) {
            rows.add((long) x.step(x.time(0) + piece));
        }
        for (int user = 1; user <= 16; user++) {
            rows.add((long) x.request(user, false));
        }
        rows.add((long) x.step(x.time(0) + 1000));
        for (int n = 0; n < 128; n++) {
            rows.add(kept(x, n / 16, n % 16));
        }
        look(x, rows);
        rows.add((long) x.cut(x.time(0) + 1));
        rows.add((long) x.init(20, 100, false));
        rows.add((long) x.start());
        look(x, rows);
        return rows;
    }

    private static void look(StartSleep x, List<Long> rows) {
        rows.add((long) x.user());
        rows.add((long) x.bank(true));
        for (int what = 0; what <= 6; what++) {
            rows.add(x.time(what));
        }
        for (int n = 0; n < 8; n++) {
            rows.add((long) x.block(n));
        }
        for (int i = 0; i < 40; i++) {
            rows.add((long) x.order(i));
        }
    }
}
