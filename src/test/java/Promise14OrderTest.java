/** Promise 14: order. */
final class Promise14OrderTest {
    public static void main(String[] args) {
        byOrderThenByNumber();
        lastOneEndsFirst();
        firstOneFails();
        longestRow();
        isOfTheLastStarting();
        nothingElsewhere();
        Due.end();
    }

    private static void byOrderThenByNumber() {
        StartSleep x = new StartSleep();
        x.init(20, 0, false);
        x.init(2, 100, false);
        x.init(1, 100, false);
        x.init(10, 7, false);
        x.init(9, 8, false);
        x.init(11, 7, false);
        x.start();
        are(x, 20, 10, 11, 9, 1, 2);
    }

    private static void lastOneEndsFirst() {
        StartSleep x = new StartSleep();
        x.init(5, 1, false);
        x.init(4, 2, false);
        x.init(6, 2, false);
        x.init(3, 3, true);
        x.init(1, 3, false);
        x.init(2, 4, true);
        Due.is("start()", x.start(), 5);
        are(x, 5, 4, 6, 1, 3, -1, -6, -4, -5);
    }

    private static void firstOneFails() {
        StartSleep x = new StartSleep();
        x.init(5, 0, true);
        x.init(6, 0, true);
        Due.is("start()", x.start(), 5);
        are(x, 5);
    }

    private static void longestRow() {
        StartSleep x = new StartSleep();
        int[] want = new int[39];
        for (int part = 1; part <= 20; part++) {
            x.init(part, 100, part == 20);
            want[part - 1] = part;
            if (part < 20) {
                want[39 - part] = -part;
            }
        }
        Due.is("start()", x.start(), 5);
        are(x, want);
    }

    private static void isOfTheLastStarting() {
        StartSleep x = new StartSleep();
        x.init(1, 1, false);
        x.init(2, 2, false);
        x.init(3, 3, true);
        x.start();
        are(x, 1, 2, 3, -2, -1);
        x.cut(1);
        x.init(1, 1, true);
        are(x, 1, 2, 3, -2, -1);
        x.start();
        are(x, 1);
        x.start();
        are(x, 1);
        x.cut(2);
        x.init(1, 4, false);
        x.init(3, 3, false);
        x.start();
        are(x, 2, 3, 1);
    }

    private static void nothingElsewhere() {
        int[] elsewhere = {-1, 2, 38, 39, 40, 41, Integer.MIN_VALUE, Integer.MAX_VALUE};
        for (int i : elsewhere) {
            Due.changesNothing("order(" + i + ")", Promise14OrderTest::startTwo, x -> x.order(i), 0);
            Due.is("order(" + i + ") of a new object", new StartSleep().order(i), 0);
        }
    }

    private static void startTwo(StartSleep x) {
        x.init(1, 1, false);
        x.init(2, 2, false);
        x.start();
    }

    private static void are(StartSleep x, int... want) {
        for (int i = 0; i < want.length; i++) {
            Due.is("order(" + i + ")", x.order(i), want[i]);
        }
        for (int i = want.length; i < 42; i++) {
            Due.is("order(" + i + ") behind the last", x.order(i), 0);
        }
    }
}
