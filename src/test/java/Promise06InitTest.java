/** Promise 6: init. */
final class Promise06InitTest {
    public static void main(String[] args) {
        countsParts();
        replacesWhatWasTold();
        partsOutliveACut();
        refusals();
        Due.end();
    }

    private static void countsParts() {
        StartSleep x = new StartSleep();
        for (int part = 20; part >= 1; part--) {
            Due.is("init(" + part + ", 100, false)", x.init(part, 100, false), 21 - part);
        }
        for (int part = 1; part <= 20; part++) {
            Due.is("init(" + part + ", 0, false) again", x.init(part, 0, false), 20);
        }
        Due.is("start() with twenty parts", x.start(), 1);
        for (int i = 0; i < 20; i++) {
            Due.is("order(" + i + ")", x.order(i), i + 1);
        }
    }

    private static void replacesWhatWasTold() {
        StartSleep x = new StartSleep();
        x.init(1, 0, true);
        x.init(2, 50, false);
        Due.is("init(1, 100, false) again", x.init(1, 100, false), 2);
        Due.is("start() when it does not fail any more", x.start(), 1);
        Due.is("order(0)", x.order(0), 2);
        Due.is("order(1)", x.order(1), 1);
        Due.is("order(2)", x.order(2), 0);
    }

    private static void partsOutliveACut() {
        StartSleep x = new StartSleep();
        x.init(5, 5, false);
        x.start();
        x.cut(1);
        Due.is("init(6, 4, true) after a cut", x.init(6, 4, true), 2);
        Due.is("order(0) of the last starting", x.order(0), 5);
        Due.is("start()", x.start(), 5);
        Due.is("order(0)", x.order(0), 6);
        Due.is("order(1)", x.order(1), 0);
    }

    private static void refusals() {
        int[] parts = {0, 21, -1, Integer.MIN_VALUE, Integer.MAX_VALUE};
        int[] orders = {-1, 101, Integer.MIN_VALUE, Integer.MAX_VALUE};
        for (int mode = 0; mode <= 5; mode++) {
            int m = mode;
            for (int part : parts) {
                Due.changesNothing("init(" + part + ", 1, true) in mode " + m, x -> Modes.enter(x, m),
                        x -> x.init(part, 1, true), -1);
                Due.changesNothing("init(" + part + ", 101, true) in mode " + m, x -> Modes.enter(x, m),
                        x -> x.init(part, 101, true), -1);
            }
            for (int order : orders) {
                Due.changesNothing("init(20, " + order + ", true) in mode " + m, x -> Modes.enter(x, m),
                        x -> x.init(20, order, true), -2);
            }
            if (m != Modes.OFF) {
                Due.changesNothing("init(1, 0, true) in mode " + m, x -> Modes.enter(x, m),
                        x -> x.init(1, 0, true), -3);
                Due.changesNothing("init(20, 100, false) in mode " + m, x -> Modes.enter(x, m),
                        x -> x.init(20, 100, false), -3);
            }
        }
    }
}
