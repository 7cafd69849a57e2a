/** Promise 9: cut. */
final class Promise09CutTest {
    public static void main(String[] args) {
        cutsInEveryMode();
        countsChanged();
        tearsWhatIsBeingSaved();
        oldCopyOutlivesEveryCut();
        nothingHappensBehindIt();
        refusals();
        Due.end();
    }

    private static void cutsInEveryMode() {
        int[] changed = {0, 0, 2, 0, 0, 0};
        for (int mode = 1; mode <= 5; mode++) {
            StartSleep x = Modes.in(mode);
            long now = x.time(0);
            Due.is("cut(" + now + ") in mode " + mode, x.cut(now), changed[mode]);
            Due.is("mode behind cut() in mode " + mode, Due.mode(x), 0);
            Due.is("time(4) behind cut() in mode " + mode, x.time(4), 1);
        }
        StartSleep x = Modes.in(Modes.ASLEEP);
        Due.is("cut() 100000 later", x.cut(100100), 0);
        Due.is("time(0)", x.time(0), 100100);
    }

    private static void countsChanged() {
        int[] left = new int[145];
        for (int t = 0; t < left.length; t++) {
            left[t] = t < 105 ? 8 : 8 - Math.min(8, (t - 100) / 5);
        }
        for (int t = 0; t < left.length; t++) {
            StartSleep x = Modes.in(Modes.RUNNING);
            for (int n = 0; n < 8; n++) {
                x.write(n, n, (byte) 1);
            }
            Due.is("cut(" + t + ") with eight written", x.cut(t), left[t]);
            for (int n = 0; n < 8; n++) {
                Due.is("kept(" + n + ", " + n + ") behind cut(" + t + ")", Due.kept(x, n, n), n < 8 - left[t] ? 1 : 0);
            }
        }
        StartSleep x = Modes.in(Modes.EMERGENCY);
        x.write(0, 0, (byte) 1);
        x.write(7, 0, (byte) 1);
        Due.is("cut(9) in emergency with two written", x.cut(9), 2);
    }

    private static void tearsWhatIsBeingSaved() {
        StartSleep x = Modes.in(Modes.SAVING);
        Due.is("cut(109)", x.cut(109), 1);
        Due.is("kept(1, 0) that was saved", Due.kept(x, 1, 0), 11);
        Due.is("kept(3, 15) that was torn", Due.kept(x, 3, 15), 0);
        x.start();
        Due.is("step(1000), with nothing changed", x.step(1000), 3);
        Due.is("kept(3, 15) after the next starting", Due.kept(x, 3, 15), 0);
    }

    // Cut in each copy's turn, so that a save into the kept copy, or a torn copy taken for the kept one, would be seen.
    private static void oldCopyOutlivesEveryCut() {
        StartSleep x = Modes.in(Modes.RUNNING);
        byte last = 0;
        for (int round = 1; round <= 12; round++) {
            x.write(4, 4, (byte) (100 + round));
            long now = x.time(0);
            x.cut(now + 104);
            Due.is("kept(4, 4) behind cut " + round, Due.kept(x, 4, 4), last);
            x.start();
            last = (byte) round;
            x.write(4, 4, last);
            Due.is("step() to the end of saving " + round, x.step(x.time(0) + 105), 3);
            Due.is("kept(4, 4) behind saving " + round, Due.kept(x, 4, 4), last);
            x.wake(1, true);
        }
    }

    private static void nothingHappensBehindIt() {
        for (int mode = 1; mode <= 5; mode++) {
            StartSleep x = Modes.in(mode);
            x.cut(x.time(0));
            long sleeps = x.time(2);
            Due.is("step() when OFF", x.step(x.time(0) + 1000), 0);
            Due.is("time(2) when OFF", x.time(2), sleeps);
            Due.is("kept(1, 0) when OFF", Due.kept(x, 1, 0), 0);
        }
    }

    private static void refusals() {
        for (int mode = 0; mode <= 5; mode++) {
            int m = mode;
            long now = Modes.in(mode).time(0);
            long[] outside = {now - 1, now + 100001, -1, Long.MIN_VALUE, Long.MAX_VALUE};
            for (long t : outside) {
                Due.changesNothing("cut(" + t + ") in mode " + m, x -> Modes.enter(x, m), x -> x.cut(t), -2);
            }
        }
        Due.changesNothing("cut(0) when OFF", x -> { }, x -> x.cut(0), -3);
        Due.changesNothing("cut(100000) when OFF", x -> { }, x -> x.cut(100000), -3);
        Due.changesNothing("cut(5) when OFF again", x -> cutAt(x, 5), x -> x.cut(5), -3);
        Due.changesNothing("cut(4) when OFF again", x -> cutAt(x, 5), x -> x.cut(4), -2);
    }

    private static void cutAt(StartSleep x, long t) {
        x.start();
        x.cut(t);
    }
}
