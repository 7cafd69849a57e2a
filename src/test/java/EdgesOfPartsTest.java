/** Boundary cases of parts and banks: the Terms, and promises 6, 10, 12 and 14. Each test quotes its sentence. */
final class EdgesOfPartsTest {
    public static void main(String[] args) {
        partsAreOneToTwenty();
        ordersAreZeroToHundred();
        initOnlyWhenOff();
        fromNoPartToAll();
        toldAgainIsNoPartMore();
        noPartBegins();
        firstAndLastOrder();
        ofOneOrderByNumbers();
        theFirstFails();
        theLastOfTwentyFails();
        onlyTheFirstThatFails();
        aPartThatFailedIsToldAgain();
        failsAtEachPlace();
        thingsAreFromZero();
        thingsAreOfTheLastStarting();
        bankTurnsThereAndBack();
        bankRunsFromTheNextStartingOn();
        bankIsTheSameForOtherCalls();
        Due.end();
    }

    /** Terms: "PARTS are 1 .. 20"; promise 6: "-1 there is none". */
    private static void partsAreOneToTwenty() {
        int[] none = {0, 21, -1, -20, 256 + 1, Integer.MIN_VALUE, Integer.MAX_VALUE};
        for (int mode = 0; mode <= 5; mode++) {
            int m = mode;
            for (int part : none) {
                Due.changesNothing("init(" + part + ", 0, true) in mode " + m, x -> Modes.enter(x, m),
                        x -> x.init(part, 0, true), -1);
            }
        }
        StartSleep x = new StartSleep();
        Due.is("init(1, 0, false)", x.init(1, 0, false), 1);
        Due.is("init(20, 0, false)", x.init(20, 0, false), 2);
        x.start();
        are(x, 1, 20);
    }

    /** Promise 6: "an ORDER (0 .. 100)"; "-2 the ORDER is none". */
    private static void ordersAreZeroToHundred() {
        int[] none = {-1, 101, -100, 256, Integer.MIN_VALUE, Integer.MAX_VALUE};
        for (int mode = 0; mode <= 5; mode++) {
            int m = mode;
            for (int order : none) {
                Due.changesNothing("init(1, " + order + ", true) in mode " + m, x -> Modes.enter(x, m),
                        x -> x.init(1, order, true), -2);
                Due.changesNothing("init(20, " + order + ", true) in mode " + m, x -> Modes.enter(x, m),
                        x -> x.init(20, order, true), -2);
            }
        }
        StartSleep x = new StartSleep();
        Due.is("init(3, 0, false)", x.init(3, 0, false), 1);
        Due.is("init(2, 100, false)", x.init(2, 100, false), 2);
    }

    /** Promise 6: "-3 it is not OFF." */
    private static void initOnlyWhenOff() {
        for (int mode = 1; mode <= 5; mode++) {
            int m = mode;
            Due.changesNothing("init(1, 0, true) in mode " + m, x -> Modes.enter(x, m), x -> x.init(1, 0, true), -3);
            Due.changesNothing("init(2, 100, true) in mode " + m, x -> Modes.enter(x, m),
                    x -> x.init(2, 100, true), -3);
        }
        StartSleep x = Modes.in(Modes.RUNNING);
        x.cut(0);
        Due.is("init(20, 100, false) in the tick of a cut", x.init(20, 100, false), 1);
    }

    /** Promise 6: "how many there are", from the first to all twenty. */
    private static void fromNoPartToAll() {
        StartSleep x = new StartSleep();
        for (int part = 1; part <= 20; part++) {
            Due.is("init(" + part + ", 100, false)", x.init(part, 100, false), part);
        }
        Due.is("init(21, 100, false) with all", x.init(21, 100, false), -1);
        Due.is("init(20, 100, false) with all", x.init(20, 100, false), 20);
        Due.is("start() with all", x.start(), Modes.RUNNING);
        are(x, 1, 2, 3, 4, 5, 6, 7, 8, 9, 10, 11, 12, 13, 14, 15, 16, 17, 18, 19, 20);
    }

    /** Promise 6: "instead of what was told of it": ORDER and FAILS both, and no part more; a refusal is no telling. */
    private static void toldAgainIsNoPartMore() {
        StartSleep x = new StartSleep();
        x.init(7, 0, true);
        x.init(8, 50, false);
        Due.is("init(7, 100, false) again", x.init(7, 100, false), 2);
        Due.is("init(7, 101, true), refused", x.init(7, 101, true), -2);
        Due.is("init(7, -1, true), refused", x.init(7, -1, true), -2);
        Due.is("start()", x.start(), Modes.RUNNING);
        are(x, 8, 7);
        Due.is("init(7, 0, true), refused", x.init(7, 0, true), -3);
        x.cut(1);
        Due.is("start() again", x.start(), Modes.RUNNING);
        are(x, 8, 7);
    }

    /** Terms: "the parts that were told begin", when none was. */
    private static void noPartBegins() {
        StartSleep x = new StartSleep();
        Due.is("start() without a part", x.start(), Modes.RUNNING);
        are(x);
    }

    /** Terms: "by ORDER", from 0 to 100, against the parts' numbers. */
    private static void firstAndLastOrder() {
        StartSleep x = new StartSleep();
        x.init(1, 100, false);
        x.init(2, 99, false);
        x.init(19, 1, false);
        x.init(20, 0, false);
        x.start();
        are(x, 20, 19, 2, 1);
    }

    /** Terms: "of one ORDER by numbers", not by when they were told. */
    private static void ofOneOrderByNumbers() {
        int[] orders = {0, 50, 100};
        for (int order : orders) {
            StartSleep x = new StartSleep();
            x.init(20, order, false);
            x.init(1, order, false);
            x.init(11, order, false);
            x.init(10, order, false);
            x.start();
            are(x, 1, 10, 11, 20);
        }
    }

    /** Terms: "If one FAILS, those that have begun before it end", when none has. */
    private static void theFirstFails() {
        StartSleep x = new StartSleep();
        x.init(9, 5, true);
        x.init(10, 5, false);
        Due.is("start()", x.start(), Modes.EMERGENCY);
        are(x, 9);
        StartSleep y = new StartSleep();
        y.init(1, 0, true);
        Due.is("start() with that one alone", y.start(), Modes.EMERGENCY);
        are(y, 1);
    }

    /** Terms: "the last one first", when all but the last one have begun. */
    private static void theLastOfTwentyFails() {
        StartSleep x = new StartSleep();
        for (int part = 1; part <= 20; part++) {
            // The greatest number first, so that its own sign and place can be told from the others'.
            x.init(part, 20 - part, part == 1);
        }
        Due.is("start()", x.start(), Modes.EMERGENCY);
        are(x, 20, 19, 18, 17, 16, 15, 14, 13, 12, 11, 10, 9, 8, 7, 6, 5, 4, 3, 2, 1,
                -2, -3, -4, -5, -6, -7, -8, -9, -10, -11, -12, -13, -14, -15, -16, -17, -18, -19, -20);
    }

    /** Terms: "If one FAILS": none behind it begins, whether it would fail or not. */
    private static void onlyTheFirstThatFails() {
        StartSleep x = new StartSleep();
        x.init(3, 1, false);
        x.init(4, 2, true);
        x.init(5, 2, true);
        x.init(6, 3, false);
        Due.is("start()", x.start(), Modes.EMERGENCY);
        are(x, 3, 4, -3);
        StartSleep all = new StartSleep();
        for (int part = 1; part <= 20; part++) {
            all.init(part, 0, true);
        }
        Due.is("start() when all fail", all.start(), Modes.EMERGENCY);
        are(all, 1);
    }

    /** Promise 6: "which FAILS or not, instead of what was told of it", behind an EMERGENCY. */
    private static void aPartThatFailedIsToldAgain() {
        StartSleep x = Modes.in(Modes.EMERGENCY);
        are(x, 2, 4, -2);
        x.cut(1);
        Due.is("start() when nothing else was told", x.start(), Modes.EMERGENCY);
        are(x, 2, 4, -2);
        x.cut(2);
        Due.is("init(4, 1, false)", x.init(4, 1, false), 2);
        Due.is("start() when it does not fail any more", x.start(), Modes.RUNNING);
        are(x, 2, 4);
    }

    /** Promise 14: "a part that began, also the one that FAILED, or, negative, one that ended", at each place. */
    private static void failsAtEachPlace() {
        for (int fails = 1; fails <= 20; fails++) {
            StartSleep x = new StartSleep();
            int[] want = new int[2 * fails - 1];
            for (int part = 1; part <= 20; part++) {
                x.init(part, 7, part == fails);
            }
            for (int part = 1; part <= fails; part++) {
                want[part - 1] = part;
                want[2 * fails - 1 - part] = part == fails ? fails : -part;
            }
            Due.is("start() with " + fails + " that fails", x.start(), Modes.EMERGENCY);
            are(x, want);
        }
    }

    /** Promise 14: "The i-th (from 0) thing .. 0 if there is none": before the first and behind the last. */
    private static void thingsAreFromZero() {
        int[] elsewhere = {-1, 3, 20, 39, 40, 41, -40, 256, Integer.MIN_VALUE, Integer.MAX_VALUE};
        for (int i : elsewhere) {
            Due.changesNothing("order(" + i + ") of three things", x -> Modes.enter(x, Modes.EMERGENCY),
                    x -> x.order(i), 0);
            Due.changesNothing("order(" + i + ") without a starting", x -> { }, x -> x.order(i), 0);
        }
        Due.changesNothing("order(0)", x -> Modes.enter(x, Modes.EMERGENCY), x -> x.order(0), 2);
        Due.changesNothing("order(2)", x -> Modes.enter(x, Modes.EMERGENCY), x -> x.order(2), -2);
    }

    /** Promise 14: "of the last STARTING": a shorter one behind the longest, and a refused one. */
    private static void thingsAreOfTheLastStarting() {
        StartSleep x = new StartSleep();
        for (int part = 1; part <= 20; part++) {
            x.init(part, part, part == 20);
        }
        x.start();
        Due.is("order(38) of the longest", x.order(38), -1);
        Due.is("order(39) of the longest", x.order(39), 0);
        Due.is("start(), refused", x.start(), -3);
        Due.is("order(38) behind the refusal", x.order(38), -1);
        x.cut(1);
        Due.is("order(38) behind a cut", x.order(38), -1);
        x.init(1, 0, true);
        Due.is("order(38) behind init()", x.order(38), -1);
        x.start();
        are(x, 1);
    }

    /** Promise 12: "if not, the other one is to RUN": of two banks, so the other one's other one is the first. */
    private static void bankTurnsThereAndBack() {
        StartSleep x = new StartSleep();
        for (int n = 1; n <= 10; n++) {
            Due.is("bank(false) for the " + n + ". time", x.bank(false), n % 2);
            Due.is("bank(true) behind it", x.bank(true), n % 2);
        }
        Due.is("time(6), as there was no starting", x.time(6), 0);
    }

    /** Promise 12: "from the next STARTING on": not by a cut, not by a refused start(), also into EMERGENCY. */
    private static void bankRunsFromTheNextStartingOn() {
        for (int fails = 0; fails <= 1; fails++) {
            StartSleep x = Modes.in(Modes.RUNNING);
            Due.is("bank(false)", x.bank(false), 1);
            Due.is("start(), refused", x.start(), -3);
            Due.is("time(6) behind the refusal", x.time(6), 0);
            x.cut(1);
            Due.is("time(6) behind the cut", x.time(6), 0);
            x.init(1, 1, fails == 1);
            x.start();
            Due.is("time(6) behind the starting", x.time(6), 1);
            Due.is("bank(true) behind the starting", x.bank(true), 1);
            x.cut(2);
            x.start();
            Due.is("time(6) behind the one after", x.time(6), 1);
        }
    }

    /** Promise 12: it is refused in no mode, and begins no time anew. */
    private static void bankIsTheSameForOtherCalls() {
        for (int mode = 0; mode <= 5; mode++) {
            int m = mode;
            Due.changesNothing("bank(true) in mode " + m, x -> midst(x, m), x -> x.bank(true), 0);
            Due.changesNothing("bank(false) twice in mode " + m, x -> midst(x, m),
                    x -> x.bank(false) * 10 + x.bank(false), 10);
        }
    }

    private static void midst(StartSleep x, int mode) {
        Modes.enter(x, mode);
        x.step(x.time(0) + 3);
    }

    private static void are(StartSleep x, int... want) {
        for (int i = 0; i < want.length; i++) {
            Due.is("order(" + i + ")", x.order(i), want[i]);
        }
        for (int i = want.length; i < 42; i++) {
            Due.is("order(" + i + ") behind the last", x.order(i), 0);
        }
    }
}
