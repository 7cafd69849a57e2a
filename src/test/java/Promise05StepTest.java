/** Promise 5: step, and all that happens by itself while time goes on. */
final class Promise05StepTest {
    public static void main(String[] args) {
        goesOnInEveryMode();
        sleepsWithoutChanges();
        savesByNumbers();
        savesAllInOneStep();
        sameInOneStepAsInMany();
        refusals();
        Due.end();
    }

    private static void goesOnInEveryMode() {
        int[] lasting = {Modes.OFF, Modes.ASLEEP, Modes.EMERGENCY};
        for (int mode : lasting) {
            StartSleep x = Modes.in(mode);
            long now = x.time(0);
            Due.is("step by 0 in mode " + mode, x.step(now), mode);
            Due.is("step by 100000 in mode " + mode, x.step(now + 100000), mode);
            Due.is("time(0) in mode " + mode, x.time(0), now + 100000);
        }
    }

    private static void sleepsWithoutChanges() {
        StartSleep x = new StartSleep();
        x.step(7);
        x.start();
        Due.is("step(106)", x.step(106), 1);
        Due.is("step(107)", x.step(107), 3);
        Due.is("time(2)", x.time(2), 1);
        Due.is("time(0)", x.time(0), 107);
    }

    private static void savesByNumbers() {
        StartSleep x = Modes.in(Modes.RUNNING);
        x.write(6, 1, (byte) 60);
        x.write(0, 2, (byte) 70);
        x.write(3, 3, (byte) 80);
        Due.is("step(99)", x.step(99), 1);
        Due.is("step(100)", x.step(100), 2);
        Due.is("step(104)", x.step(104), 2);
        savedAre(x, 0, 0, 0);
        Due.is("step(105)", x.step(105), 2);
        savedAre(x, 70, 0, 0);
        Due.is("step(109)", x.step(109), 2);
        savedAre(x, 70, 0, 0);
        Due.is("step(110)", x.step(110), 2);
        savedAre(x, 70, 80, 0);
        Due.is("step(114)", x.step(114), 2);
        savedAre(x, 70, 80, 0);
        Due.is("step(115)", x.step(115), 3);
        savedAre(x, 70, 80, 60);
        Due.is("time(2)", x.time(2), 1);
    }

    private static void savedAre(StartSleep x, int ofBlock0, int ofBlock3, int ofBlock6) {
        String at = " at " + x.time(0);
        Due.is("kept(0, 2)" + at, Due.kept(x, 0, 2), ofBlock0);
        Due.is("kept(3, 3)" + at, Due.kept(x, 3, 3), ofBlock3);
        Due.is("kept(6, 1)" + at, Due.kept(x, 6, 1), ofBlock6);
        Due.is("block(0)" + at, x.block(0), ofBlock0 == 0 ? 1 : 0);
        Due.is("block(3)" + at, x.block(3), ofBlock3 == 0 ? 1 : 0);
        Due.is("block(6)" + at, x.block(6), ofBlock6 == 0 ? 1 : 0);
    }

    private static void savesAllInOneStep() {
        StartSleep x = Modes.in(Modes.RUNNING);
        for (int n = 0; n < 8; n++) {
            x.write(n, 15 - n, (byte) (n - 4));
        }
        Due.is("step(100000) with eight blocks", x.step(100000), 3);
        for (int n = 0; n < 8; n++) {
            Due.is("block(" + n + ") when asleep", x.block(n), 0);
            Due.is("kept(" + n + ", " + (15 - n) + ") when asleep", Due.kept(x, n, 15 - n), n - 4);
        }
        Due.is("time(0)", x.time(0), 100000);
        Due.is("time(2)", x.time(2), 1);
    }

    private static void sameInOneStepAsInMany() {
        for (int end = 95; end <= 145; end++) {
            StartSleep once = Modes.in(Modes.RUNNING);
            StartSleep often = Modes.in(Modes.RUNNING);
            for (int n = 0; n < 8; n++) {
                once.write(n, n, (byte) (n + 1));
                often.write(n, n, (byte) (n + 1));
            }
            for (int t = 90; t < end; t++) {
                often.step(t);
            }
            Due.is("step(" + end + ") at once and in many", once.step(end), often.step(end));
            for (int n = 0; n < 8; n++) {
                Due.is("block(" + n + ") at " + end, once.block(n), often.block(n));
                Due.is("kept(" + n + ", " + n + ") at " + end, Due.kept(once, n, n), Due.kept(often, n, n));
            }
        }
    }

    private static void refusals() {
        for (int mode = 0; mode <= 5; mode++) {
            int m = mode;
            long now = timeIn(mode);
            long[] outside = {now - 1, now + 100001, -1, Long.MIN_VALUE, Long.MAX_VALUE};
            for (long t : outside) {
                Due.changesNothing("step(" + t + ") in mode " + m, x -> later(x, m), x -> x.step(t), -2);
            }
        }
    }

    private static long timeIn(int mode) {
        StartSleep x = new StartSleep();
        later(x, mode);
        return x.time(0);
    }

    private static void later(StartSleep x, int mode) {
        Modes.enter(x, mode);
        x.step(x.time(0) + 3);
    }
}
