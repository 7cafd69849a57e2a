/** Boundary cases of times: the document's Terms, and promises 5, 9 and 13. Each test quotes its sentence. */
final class EdgesOfTimesTest {
    private static final long MOST = 100000;

    public static void main(String[] args) {
        timeIsZeroAtFirst();
        sameTimeIsNotLess();
        oneTickLess();
        mostTicksAtOnce();
        oneTickTooMany();
        endsOfLong();
        rangeGoesAlongWithTheTime();
        hasHappenedWhenItIsDue();
        fromOneToTheNext();
        nothingIsLeftToHappen();
        cutAtTheSameTime();
        cutRangeIsThatOfStep();
        cutComesBehindWhatIsDue();
        whatIsZeroToSix();
        countsReachAsFarAsTheCallsDo();
        timeReachesAsFarAsTheCallsDo();
        Due.end();
    }

    /** Terms: "TIME is counted in ticks, at first 0." */
    private static void timeIsZeroAtFirst() {
        StartSleep x = new StartSleep();
        Due.is("time(0) of a new object", x.time(0), 0);
        Due.is("step(-1) of a new object", x.step(-1), -2);
        Due.is("step(0) of a new object", x.step(0), 0);
    }

    /** Promise 5: "-2 t is less than the time": the time itself is not. */
    private static void sameTimeIsNotLess() {
        for (int mode = 0; mode <= 5; mode++) {
            int m = mode;
            Due.changesNothing("step(the time) in mode " + m, x -> midst(x, m), x -> x.step(x.time(0)), m);
        }
    }

    /** Promise 5: "-2 t is less than the time". */
    private static void oneTickLess() {
        for (int mode = 0; mode <= 5; mode++) {
            int m = mode;
            Due.changesNothing("step(1 less) in mode " + m, x -> midst(x, m), x -> x.step(x.time(0) - 1), -2);
            Due.changesNothing("step(0) in mode " + m, x -> midst(x, m), x -> x.step(0), -2);
        }
    }

    /** Promise 5: "or more than 100000 later": 100000 is not more. */
    private static void mostTicksAtOnce() {
        int[] modeThen = {Modes.OFF, Modes.ASLEEP, Modes.ASLEEP, Modes.ASLEEP, Modes.ASLEEP, Modes.EMERGENCY};
        for (int mode = 0; mode <= 5; mode++) {
            StartSleep x = new StartSleep();
            midst(x, mode);
            long later = x.time(0) + MOST;
            Due.is("step(100000 later) in mode " + mode, x.step(later), modeThen[mode]);
            Due.is("time(0) behind it", x.time(0), later);
        }
    }

    /** Promise 5: "or more than 100000 later". */
    private static void oneTickTooMany() {
        for (int mode = 0; mode <= 5; mode++) {
            int m = mode;
            Due.changesNothing("step(100001 later) in mode " + m, x -> midst(x, m),
                    x -> x.step(x.time(0) + MOST + 1), -2);
        }
    }

    /** Promise 5: both sentences for times whose distance from the time, or whose int part, wraps around. */
    private static void endsOfLong() {
        long[] far = {Long.MIN_VALUE, Long.MIN_VALUE + 1, Long.MAX_VALUE, Long.MAX_VALUE - 1, 1L << 32, (1L << 32) + 50,
            -(1L << 32), Integer.MIN_VALUE, Integer.MAX_VALUE};
        for (int mode = 0; mode <= 5; mode++) {
            int m = mode;
            for (long t : far) {
                Due.changesNothing("step(" + t + ") in mode " + m, x -> midst(x, m), x -> x.step(t), -2);
                Due.changesNothing("cut(" + t + ") in mode " + m, x -> midst(x, m), x -> x.cut(t), -2);
            }
        }
    }

    /** Promise 5: "the time" that t is compared with is the time as it has become. */
    private static void rangeGoesAlongWithTheTime() {
        StartSleep x = new StartSleep();
        Due.is("step(100000)", x.step(100000), 0);
        Due.is("step(99999)", x.step(99999), -2);
        Due.is("step(200001)", x.step(200001), -2);
        Due.is("step(200000)", x.step(200000), 0);
        Due.is("step(100000) again", x.step(100000), -2);
        Due.is("time(0)", x.time(0), 200000);
    }

    /** Terms: "what is due at a time has happened when that is told." */
    private static void hasHappenedWhenItIsDue() {
        StartSleep x = Modes.in(Modes.RUNNING);
        x.write(0, 0, (byte) 1);
        Due.is("step(99), before the idle time's end", x.step(99), Modes.RUNNING);
        Due.is("step(100), at the idle time's end", x.step(100), Modes.SAVING);
        Due.is("step(104), before the saving's end", x.step(104), Modes.SAVING);
        Due.is("time(2) before the saving's end", x.time(2), 0);
        Due.is("step(105), at the saving's end", x.step(105), Modes.ASLEEP);
        Due.is("time(2) at the saving's end", x.time(2), 1);
        x.wake(1, false);
        Due.is("step(124), before the check's end", x.step(124), Modes.CHECKING);
        Due.is("step(125), at the check's end", x.step(125), Modes.ASLEEP);
        Due.is("time(2) at the check's end", x.time(2), 2);
    }

    /** Terms: "Time goes on from what is to happen to what is to happen": each at its own time, not at the step's. */
    private static void fromOneToTheNext() {
        for (int last = 100; last <= 145; last++) {
            StartSleep x = Modes.in(Modes.RUNNING);
            for (int n = 0; n < 8; n++) {
                x.write(n, n, (byte) (n + 1));
            }
            int saved = Math.min(8, (last - 100) / 5);
            Due.is("step(" + last + ") with all blocks written", x.step(last), saved == 8 ? Modes.ASLEEP : Modes.SAVING);
            for (int n = 0; n < 8; n++) {
                Due.is("block(" + n + ") at " + last, x.block(n), n < saved ? 0 : 1);
                Due.is("kept(" + n + ", " + n + ") at " + last, Due.kept(x, n, n), n < saved ? n + 1 : 0);
            }
        }
    }

    /** Terms: the same sentence where nothing is to happen: OFF, ASLEEP and EMERGENCY have no end by themselves. */
    private static void nothingIsLeftToHappen() {
        int[] lasting = {Modes.OFF, Modes.ASLEEP, Modes.EMERGENCY};
        for (int mode : lasting) {
            StartSleep x = Modes.in(mode);
            long sleeps = x.time(2);
            for (int n = 1; n <= 50; n++) {
                Due.is("step() " + n + " in mode " + mode, x.step(x.time(0) + MOST), mode);
            }
            Due.is("time(2) in mode " + mode, x.time(2), sleeps);
        }
    }

    /** Promise 9: "-2 as step()": the time itself is not less. */
    private static void cutAtTheSameTime() {
        for (int mode = 1; mode <= 5; mode++) {
            StartSleep x = new StartSleep();
            midst(x, mode);
            long now = x.time(0);
            Due.is("cut(the time) in mode " + mode, x.cut(now), mode == Modes.SAVING ? 2 : 0);
            Due.is("time(0) behind it", x.time(0), now);
            Due.is("mode behind it", Due.mode(x), Modes.OFF);
        }
    }

    /** Promise 9: "-2 as step()". */
    private static void cutRangeIsThatOfStep() {
        for (int mode = 1; mode <= 5; mode++) {
            int m = mode;
            Due.changesNothing("cut(1 less) in mode " + m, x -> midst(x, m), x -> x.cut(x.time(0) - 1), -2);
            Due.changesNothing("cut(100001 later) in mode " + m, x -> midst(x, m),
                    x -> x.cut(x.time(0) + MOST + 1), -2);
            StartSleep x = new StartSleep();
            midst(x, mode);
            long later = x.time(0) + MOST;
            Due.is("cut(100000 later) in mode " + mode, x.cut(later), 0);
            Due.is("time(0) behind it", x.time(0), later);
            Due.is("time(4) behind it", x.time(4), 1);
        }
    }

    /** Promise 9: "Time goes on to t, then power is cut": what is due at t has happened before. */
    private static void cutComesBehindWhatIsDue() {
        StartSleep x = Modes.in(Modes.RUNNING);
        Due.is("cut(99), before it sleeps", x.cut(99), 0);
        Due.is("time(2) behind cut(99)", x.time(2), 0);
        StartSleep y = Modes.in(Modes.RUNNING);
        Due.is("cut(100), when it sleeps", y.cut(100), 0);
        Due.is("time(2) behind cut(100)", y.time(2), 1);
        StartSleep z = Modes.in(Modes.CHECKING);
        Due.is("cut(120), when the check ends", z.cut(120), 0);
        Due.is("time(2) behind cut(120)", z.time(2), 2);
    }

    /** Promise 13: "-2 another what": 0 and 6 are the ends of those that there are. */
    private static void whatIsZeroToSix() {
        int[] others = {-1, 7, -2, 8, 1 << 16, Integer.MIN_VALUE, Integer.MAX_VALUE};
        for (int mode = 0; mode <= 5; mode++) {
            int m = mode;
            for (int what : others) {
                Due.changesNothing("time(" + what + ") in mode " + m, x -> midst(x, m), x -> x.time(what), -2);
            }
            for (int what = 0; what <= 6; what++) {
                StartSleep x = new StartSleep();
                midst(x, mode);
                Due.isTrue("time(" + what + ") in mode " + mode + " is no refusal", x.time(what) >= 0);
            }
        }
    }

    /** Promise 13: "how often", as often as 512 calls can make it. */
    private static void countsReachAsFarAsTheCallsDo() {
        StartSleep power = new StartSleep();
        for (int n = 1; n <= 250; n++) {
            power.start();
            power.cut(n);
        }
        are(power, 250, 250, 0, 0, 250, 249, 0);
        StartSleep sleeper = Modes.in(Modes.ASLEEP);
        for (int n = 1; n <= 250; n++) {
            sleeper.wake(8, false);
            sleeper.step(100 + n * 20);
        }
        are(sleeper, 5100, 1, 251, 250, 0, 0, 0);
    }

    /** Promise 5: the time behind as many steps as an object is used for, each the longest. */
    private static void timeReachesAsFarAsTheCallsDo() {
        StartSleep x = new StartSleep();
        for (int n = 1; n <= 500; n++) {
            x.step(n * MOST);
        }
        Due.is("start() then", x.start(), Modes.RUNNING);
        are(x, 500 * MOST, 1, 0, 0, 0, 500 * MOST, 0);
        Due.is("step(99 later) then", x.step(500 * MOST + 99), Modes.RUNNING);
        Due.is("step(100 later) then", x.step(500 * MOST + 100), Modes.ASLEEP);
    }

    private static void are(StartSleep x, long... want) {
        for (int what = 0; what < want.length; what++) {
            Due.is("time(" + what + ") at " + want[0], x.time(what), want[what]);
        }
    }

    // Some ticks behind the mode's beginning, so that 1 less than the time is never below 0.
    private static void midst(StartSleep x, int mode) {
        Modes.enter(x, mode);
        x.step(x.time(0) + 3);
    }
}
