/** Promise 10: start. */
final class Promise10StartTest {
    public static void main(String[] args) {
        runsWhenNoneFails();
        emergencyWhenOneFails();
        loadsWhatIsKept();
        idleTimeBeginsWithIt();
        refusals();
        Due.end();
    }

    private static void runsWhenNoneFails() {
        StartSleep x = new StartSleep();
        x.init(1, 3, false);
        x.init(20, 2, false);
        Due.is("start()", x.start(), 1);
        Due.is("mode behind it", Due.mode(x), 1);
    }

    private static void emergencyWhenOneFails() {
        StartSleep x = new StartSleep();
        x.init(20, 100, true);
        Due.is("start() with one that fails", x.start(), 5);
        Due.is("step(100000) in emergency", x.step(100000), 5);
        Due.is("time(1)", x.time(1), 1);
        Due.is("time(2)", x.time(2), 0);
        x.cut(100000);
        x.init(20, 100, false);
        Due.is("start() when it does not fail any more", x.start(), 1);
        Due.is("time(1)", x.time(1), 2);
    }

    private static void loadsWhatIsKept() {
        for (int n = 0; n < 8; n++) {
            StartSleep x = Modes.in(Modes.RUNNING);
            x.write(n, 0, (byte) 1);
            x.write(n, 1, (byte) 2);
            x.step(105);
            x.wake(1, true);
            x.write(n, 0, (byte) 77);
            x.write(n, 2, (byte) 78);
            x.cut(106);
            Due.is("start()", x.start(), 1);
            Due.is("block(" + n + ")", x.block(n), 0);
            // Another octet is written, so that the whole working row is saved and can be seen.
            x.write(n, 15, (byte) 3);
            Due.is("step(1000)", x.step(1000), 3);
            Due.is("kept(" + n + ", 0)", Due.kept(x, n, 0), 1);
            Due.is("kept(" + n + ", 1)", Due.kept(x, n, 1), 2);
            Due.is("kept(" + n + ", 2)", Due.kept(x, n, 2), 0);
            Due.is("kept(" + n + ", 15)", Due.kept(x, n, 15), 3);
        }
    }

    private static void idleTimeBeginsWithIt() {
        StartSleep x = Modes.in(Modes.RUNNING);
        x.request(1, true);
        x.cut(50);
        x.step(70);
        x.start();
        Due.is("user()", x.user(), 0);
        Due.is("step(169)", x.step(169), 1);
        Due.is("step(170)", x.step(170), 3);
    }

    private static void refusals() {
        for (int mode = 1; mode <= 5; mode++) {
            int m = mode;
            Due.changesNothing("start() in mode " + m, x -> later(x, m), x -> x.start(), -3);
        }
    }

    // With all that a starting would change: a request, a changed block, another bank, a later time.
    private static void later(StartSleep x, int mode) {
        Modes.enter(x, mode);
        x.request(3, true);
        x.write(5, 5, (byte) 5);
        x.bank(false);
        x.step(x.time(0) + 1);
    }
}
