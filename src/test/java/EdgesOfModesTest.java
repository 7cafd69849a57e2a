/** Boundary cases of modes: the document's Terms, and promises 1, 4 and 10. Each test quotes its sentence. */
final class EdgesOfModesTest {
    public static void main(String[] args) {
        newObject();
        sourcesAreOneToEight();
        hundredTicksSinceItIsRunning();
        noBlockChanged();
        allBlocksChanged();
        twentyTicksOfChecking();
        notValidDoesNotLengthenChecking();
        validInTheLastTickOfChecking();
        checkingBeginsAnewWhenAsleepAgain();
        otherModesStay();
        startOnlyWhenOff();
        emergencyHasNoEndButACut();
        Due.end();
    }

    /** Promise 1: "OFF, without parts; bank 0 RUNS." */
    private static void newObject() {
        StartSleep x = new StartSleep();
        Due.is("mode", Due.mode(x), Modes.OFF);
        Due.is("bank(true)", x.bank(true), 0);
        Due.is("time(6)", x.time(6), 0);
        Due.is("init() of a first part", x.init(20, 100, false), 1);
        Due.is("cut(0), as it is OFF", x.cut(0), -3);
        Due.is("time(4)", x.time(4), 0);
        Due.is("start()", x.start(), Modes.RUNNING);
        Due.is("order(0)", x.order(0), 20);
        Due.is("order(1)", x.order(1), 0);
    }

    /** Promise 4: "A wake by a source (1 .. 8)"; "-1 there is no source." */
    private static void sourcesAreOneToEight() {
        int[] none = {0, 9, -1, -8, 256 + 1, Integer.MIN_VALUE, Integer.MAX_VALUE};
        for (int mode = 0; mode <= 5; mode++) {
            int m = mode;
            for (int source : none) {
                Due.changesNothing("wake(" + source + ", true) in mode " + m, x -> midst(x, m),
                        x -> x.wake(source, true), -1);
                Due.changesNothing("wake(" + source + ", false) in mode " + m, x -> midst(x, m),
                        x -> x.wake(source, false), -1);
            }
        }
        Due.is("wake(1, true) when asleep", Modes.in(Modes.ASLEEP).wake(1, true), Modes.RUNNING);
        Due.is("wake(8, true) when asleep", Modes.in(Modes.ASLEEP).wake(8, true), Modes.RUNNING);
        Due.is("wake(1, false) when asleep", Modes.in(Modes.ASLEEP).wake(1, false), Modes.CHECKING);
        Due.is("wake(8, false) when asleep", Modes.in(Modes.ASLEEP).wake(8, false), Modes.CHECKING);
    }

    /** Terms: "no user has REQUESTED for 100 ticks (.. or since it is RUNNING)", for each way to be RUNNING. */
    private static void hundredTicksSinceItIsRunning() {
        StartSleep started = new StartSleep();
        started.step(1000);
        started.start();
        staysHundredTicks("started", started);
        StartSleep woken = Modes.in(Modes.ASLEEP);
        woken.step(1000);
        woken.wake(1, true);
        staysHundredTicks("woken", woken);
        StartSleep checked = Modes.in(Modes.CHECKING);
        checked.step(115);
        checked.wake(1, true);
        staysHundredTicks("found valid", checked);
        StartSleep again = Modes.in(Modes.RUNNING);
        again.cut(50);
        again.start();
        staysHundredTicks("started again", again);
    }

    private static void staysHundredTicks(String how, StartSleep x) {
        long since = x.time(0);
        Due.is(how + ", 99 ticks later", x.step(since + 99), Modes.RUNNING);
        Due.is(how + ", 100 ticks later", x.step(since + 100), Modes.ASLEEP);
    }

    /** Terms: "if no block is CHANGED, ASLEEP": without a tick of SAVING. */
    private static void noBlockChanged() {
        StartSleep x = Modes.in(Modes.RUNNING);
        Due.is("step(100) with nothing written", x.step(100), Modes.ASLEEP);
        Due.is("time(2)", x.time(2), 1);
        StartSleep y = Modes.in(Modes.RUNNING);
        y.write(8, 0, (byte) 1);
        y.write(0, 16, (byte) 1);
        Due.is("step(100) with refused writes only", y.step(100), Modes.ASLEEP);
    }

    /** Terms: "the CHANGED blocks, by numbers, one behind the other; .. if there are none left, ASLEEP": all eight. */
    private static void allBlocksChanged() {
        StartSleep x = Modes.in(Modes.RUNNING);
        for (int n = 7; n >= 0; n--) {
            x.write(n, 0, (byte) 1);
        }
        for (int n = 0; n < 8; n++) {
            Due.is("step() before the end of block " + n, x.step(104 + n * 5), Modes.SAVING);
            Due.is("block(" + n + ") before its end", x.block(n), 1);
            Due.is("step() to the end of block " + n, x.step(105 + n * 5), n == 7 ? Modes.ASLEEP : Modes.SAVING);
            Due.is("block(" + n + ") at its end", x.block(n), 0);
        }
        Due.is("time(2)", x.time(2), 1);
    }

    /** Terms: "CHECKING: ASLEEP again 20 ticks after it began." */
    private static void twentyTicksOfChecking() {
        StartSleep x = Modes.in(Modes.CHECKING);
        Due.is("19 ticks after it began", x.step(119), Modes.CHECKING);
        Due.is("time(2) 19 ticks after it began", x.time(2), 1);
        Due.is("20 ticks after it began", x.step(120), Modes.ASLEEP);
        Due.is("time(2) 20 ticks after it began", x.time(2), 2);
    }

    /** Promise 4: "CHECKING becomes RUNNING if it is valid (otherwise it goes on as it was)". */
    private static void notValidDoesNotLengthenChecking() {
        StartSleep x = Modes.in(Modes.CHECKING);
        for (int t = 101; t <= 119; t++) {
            x.step(t);
            Due.is("wake(" + t % 8 + " + 1, false) at " + t, x.wake(t % 8 + 1, false), Modes.CHECKING);
        }
        Due.is("time(3)", x.time(3), 1);
        Due.is("20 ticks after it began", x.step(120), Modes.ASLEEP);
    }

    /** Promise 4: "CHECKING becomes RUNNING if it is valid", in the last tick in which it is CHECKING. */
    private static void validInTheLastTickOfChecking() {
        StartSleep x = Modes.in(Modes.CHECKING);
        x.step(119);
        Due.is("wake(8, true) 19 ticks after it began", x.wake(8, true), Modes.RUNNING);
        Due.is("the tick behind it", x.step(120), Modes.RUNNING);
        Due.is("time(2)", x.time(2), 1);
        StartSleep y = Modes.in(Modes.CHECKING);
        Due.is("wake(1, true) in the tick in which it began", y.wake(1, true), Modes.RUNNING);
        Due.is("20 ticks behind it", y.step(120), Modes.RUNNING);
    }

    /** Promise 4: "ASLEEP becomes .. CHECKING", in the very tick in which a check has ended. */
    private static void checkingBeginsAnewWhenAsleepAgain() {
        StartSleep x = Modes.in(Modes.CHECKING);
        x.step(120);
        Due.is("wake(2, false) when asleep again", x.wake(2, false), Modes.CHECKING);
        Due.is("time(3)", x.time(3), 2);
        Due.is("19 ticks later", x.step(139), Modes.CHECKING);
        Due.is("20 ticks later", x.step(140), Modes.ASLEEP);
        Due.is("time(2)", x.time(2), 3);
    }

    /** Promise 4: "in other modes nothing: the mode." */
    private static void otherModesStay() {
        int[] others = {Modes.OFF, Modes.RUNNING, Modes.SAVING, Modes.EMERGENCY};
        for (int mode : others) {
            for (int source = 1; source <= 8; source += 7) {
                int s = source;
                Due.changesNothing("wake(" + s + ", true) in mode " + mode, x -> midst(x, mode),
                        x -> x.wake(s, true), mode);
                Due.changesNothing("wake(" + s + ", false) in mode " + mode, x -> midst(x, mode),
                        x -> x.wake(s, false), mode);
            }
        }
    }

    /** Promise 10: "-3 it is not OFF." */
    private static void startOnlyWhenOff() {
        for (int mode = 1; mode <= 5; mode++) {
            int m = mode;
            Due.changesNothing("start() in mode " + m, x -> midst(x, m), x -> x.start(), -3);
            StartSleep x = Modes.in(mode);
            x.cut(x.time(0));
            x.init(4, 1, false);
            Due.is("start() in the tick of a cut, in mode " + mode + " before", x.start(), Modes.RUNNING);
        }
    }

    /** Terms: "the mode is EMERGENCY": no sentence but that of cut() tells an end of it. */
    private static void emergencyHasNoEndButACut() {
        StartSleep x = Modes.in(Modes.EMERGENCY);
        x.write(0, 0, (byte) 1);
        Due.is("step(100)", x.step(100), Modes.EMERGENCY);
        Due.is("step(105)", x.step(105), Modes.EMERGENCY);
        Due.is("wake(1, true)", x.wake(1, true), Modes.EMERGENCY);
        Due.is("request(1, true)", x.request(1, true), -3);
        Due.is("start()", x.start(), -3);
        Due.is("time(2)", x.time(2), 0);
        Due.is("cut(105)", x.cut(105), 1);
        Due.is("mode behind the cut", Due.mode(x), Modes.OFF);
    }

    // Some ticks behind the mode's beginning, so that a time begun anew would be seen.
    private static void midst(StartSleep x, int mode) {
        Modes.enter(x, mode);
        x.step(x.time(0) + 3);
    }
}
