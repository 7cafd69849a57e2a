/** Promise 1: A new object. */
final class Promise01NewObjectTest {
    public static void main(String[] args) {
        isOffAndEmpty();
        hasNoParts();
        objectsAreApart();
        Due.end();
    }

    private static void isOffAndEmpty() {
        StartSleep x = new StartSleep();
        Due.is("wake(1, true) of a new object", x.wake(1, true), 0);
        Due.is("mode of a new object", Due.mode(x), 0);
        Due.is("user() of a new object", x.user(), 0);
        for (int what = 0; what <= 6; what++) {
            Due.is("time(" + what + ") of a new object", x.time(what), 0);
        }
        Due.is("bank(true) of a new object", x.bank(true), 0);
        Due.is("order(0) of a new object", x.order(0), 0);
        for (int n = 0; n < 8; n++) {
            Due.is("block(" + n + ") of a new object", x.block(n), 0);
            for (int i = 0; i < 16; i++) {
                Due.is("kept(" + n + ", " + i + ") of a new object", Due.kept(x, n, i), 0);
            }
        }
    }

    private static void hasNoParts() {
        StartSleep x = new StartSleep();
        Due.is("start() without parts", x.start(), 1);
        Due.is("order(0) without parts", x.order(0), 0);
        Due.is("init of the first part", new StartSleep().init(1, 0, false), 1);
    }

    private static void objectsAreApart() {
        StartSleep x = new StartSleep();
        StartSleep y = new StartSleep();
        x.init(1, 1, true);
        x.bank(false);
        x.start();
        x.write(0, 0, (byte) 1);
        x.step(7);
        Due.is("another object's start()", y.start(), 1);
        Due.is("another object's block(0)", y.block(0), 0);
        Due.is("another object's time(0)", y.time(0), 0);
        Due.is("another object's time(6)", y.time(6), 0);
    }
}
