/** Promise 13: time. */
final class Promise13TimeTest {
    public static void main(String[] args) {
        tellsWhatHappened();
        countsFailedStartings();
        sleepsAreCountedFromEachMode();
        refusals();
        Due.end();
    }

    private static void tellsWhatHappened() {
        StartSleep x = new StartSleep();
        x.step(40);
        are(x, 40, 0, 0, 0, 0, 0, 0);
        x.start();
        are(x, 40, 1, 0, 0, 0, 40, 0);
        x.step(140);
        are(x, 140, 1, 1, 0, 0, 40, 0);
        x.wake(2, false);
        are(x, 140, 1, 1, 1, 0, 40, 0);
        x.step(200);
        are(x, 200, 1, 2, 1, 0, 40, 0);
        x.wake(2, false);
        x.wake(2, false);
        are(x, 200, 1, 2, 2, 0, 40, 0);
        x.bank(false);
        x.cut(201);
        are(x, 201, 1, 2, 2, 1, 40, 0);
        x.step(205);
        x.start();
        are(x, 205, 2, 2, 2, 1, 205, 1);
        x.start();
        x.cut(Long.MAX_VALUE);
        are(x, 205, 2, 2, 2, 1, 205, 1);
    }

    private static void are(StartSleep x, long... want) {
        for (int what = 0; what < want.length; what++) {
            Due.is("time(" + what + ") at " + want[0], x.time(what), want[what]);
        }
    }

    private static void countsFailedStartings() {
        StartSleep x = new StartSleep();
        x.init(3, 3, true);
        for (int n = 1; n <= 4; n++) {
            x.step(n * 10);
            x.start();
            are(x, n * 10, n, 0, 0, n - 1, n * 10, 0);
            x.cut(n * 10);
        }
    }

    private static void sleepsAreCountedFromEachMode() {
        StartSleep x = Modes.in(Modes.SAVING);
        Due.is("time(2) in saving", x.time(2), 0);
        x.step(110);
        Due.is("time(2) behind saving", x.time(2), 1);
        x.wake(1, true);
        x.step(210);
        Due.is("time(2) behind running", x.time(2), 2);
        x.wake(1, false);
        x.step(230);
        Due.is("time(2) behind checking", x.time(2), 3);
        x.step(100000);
        Due.is("time(2) long behind", x.time(2), 3);
    }

    private static void refusals() {
        int[] others = {-1, 7, Integer.MIN_VALUE, Integer.MAX_VALUE};
        for (int mode = 0; mode <= 5; mode++) {
            int m = mode;
            for (int what : others) {
                Due.changesNothing("time(" + what + ") in mode " + m, x -> Modes.enter(x, m), x -> x.time(what), -2);
            }
        }
    }
}
