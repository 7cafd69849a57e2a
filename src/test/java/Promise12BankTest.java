/** Promise 12: bank. */
final class Promise12BankTest {
    public static void main(String[] args) {
        wholeStays();
        otherOneFromTheNextStartingOn();
        notWholeTwice();
        inEveryMode();
        Due.end();
    }

    private static void wholeStays() {
        StartSleep x = new StartSleep();
        Due.is("bank(true)", x.bank(true), 0);
        x.start();
        Due.is("time(6)", x.time(6), 0);
    }

    private static void otherOneFromTheNextStartingOn() {
        StartSleep x = Modes.in(Modes.RUNNING);
        Due.is("bank(false)", x.bank(false), 1);
        Due.is("bank(true) behind it", x.bank(true), 1);
        Due.is("time(6) before the next starting", x.time(6), 0);
        x.cut(3);
        Due.is("time(6) when power was cut", x.time(6), 0);
        x.start();
        Due.is("time(6) after the next starting", x.time(6), 1);
        Due.is("bank(true) after the next starting", x.bank(true), 1);
        Due.is("bank(false) after the next starting", x.bank(false), 0);
        Due.is("time(6) before the one behind it", x.time(6), 1);
        x.cut(4);
        x.start();
        Due.is("time(6) after that", x.time(6), 0);
    }

    private static void notWholeTwice() {
        StartSleep x = new StartSleep();
        Due.is("bank(false)", x.bank(false), 1);
        Due.is("bank(false) again", x.bank(false), 0);
        x.start();
        Due.is("time(6)", x.time(6), 0);
    }

    private static void inEveryMode() {
        for (int mode = 0; mode <= 5; mode++) {
            int m = mode;
            StartSleep x = Modes.in(mode);
            Due.is("bank(false) in mode " + mode, x.bank(false), 1);
            Due.is("mode behind bank(false)", Due.mode(x), mode);
            Due.changesNothing("bank(true) in mode " + m, y -> Modes.enter(y, m), y -> y.bank(true), 0);
        }
        StartSleep x = new StartSleep();
        x.init(1, 1, true);
        x.bank(false);
        x.start();
        Due.is("time(6) when a part failed", x.time(6), 1);
    }
}
