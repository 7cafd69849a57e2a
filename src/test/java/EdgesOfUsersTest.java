/** Boundary cases of users: the document's Terms, and promises 2 and 3. Each test quotes its sentence. */
final class EdgesOfUsersTest {
    public static void main(String[] args) {
        usersAreOneToSixteen();
        noneAndAllRequest();
        hundredTicksSinceTheLastOne();
        requestInTheLastTick();
        onAndOffInOneTick();
        tellingAgainBeginsNothingAnew();
        releaseBeforeItIsRunning();
        refusingModes();
        atTheEndOfEachBlock();
        atTheLastBlocksEnd();
        takenBackAtABlocksEnd();
        staysThroughSleep();
        noneBehindStarting();
        eachRequestsAnewBehindStarting();
        Due.end();
    }

    /** Terms: "USERS are 1 .. 16"; promise 3: "-1 there is none". */
    private static void usersAreOneToSixteen() {
        int[] none = {0, 17, -1, -16, 256 + 1, Integer.MIN_VALUE, Integer.MAX_VALUE};
        for (int mode = 0; mode <= 5; mode++) {
            int m = mode;
            for (int user : none) {
                Due.changesNothing("request(" + user + ", true) in mode " + m, x -> midst(x, m),
                        x -> x.request(user, true), -1);
                Due.changesNothing("request(" + user + ", false) in mode " + m, x -> midst(x, m),
                        x -> x.request(user, false), -1);
            }
        }
        StartSleep x = Modes.in(Modes.RUNNING);
        Due.is("request(1, true)", x.request(1, true), 1);
        Due.is("request(16, true)", x.request(16, true), 2);
    }

    /** Promises 2 and 3: "How many users REQUEST", from none to all and back. */
    private static void noneAndAllRequest() {
        StartSleep x = Modes.in(Modes.RUNNING);
        Due.is("user() with none", x.user(), 0);
        Due.is("request(1, false) with none", x.request(1, false), 0);
        for (int user = 1; user <= 16; user++) {
            Due.is("request(" + user + ", true)", x.request(user, true), user);
            Due.is("user() behind it", x.user(), user);
        }
        Due.is("request(16, true) with all", x.request(16, true), 16);
        Due.is("request(17, true) with all", x.request(17, true), -1);
        Due.is("user() with all", x.user(), 16);
        for (int user = 1; user <= 16; user++) {
            Due.is("request(" + user + ", false)", x.request(user, false), 16 - user);
            Due.is("user() behind it", x.user(), 16 - user);
        }
        Due.is("request(16, false) with none", x.request(16, false), 0);
    }

    /** Terms: "when no user has REQUESTED for 100 ticks (since the last one REQUESTED no more ..)". */
    private static void hundredTicksSinceTheLastOne() {
        StartSleep x = Modes.in(Modes.RUNNING);
        x.request(1, true);
        x.request(16, true);
        x.step(500);
        x.request(1, false);
        Due.is("step(600), with one that still does", x.step(600), Modes.RUNNING);
        x.request(16, false);
        Due.is("step(699), 99 ticks since the last one", x.step(699), Modes.RUNNING);
        Due.is("step(700), 100 ticks since the last one", x.step(700), Modes.ASLEEP);
    }

    /** Terms: the same sentence, with a request in the last of the 100 ticks, and one a tick too late. */
    private static void requestInTheLastTick() {
        StartSleep x = Modes.in(Modes.RUNNING);
        x.step(99);
        Due.is("request(1, true) at 99", x.request(1, true), 1);
        Due.is("step(100)", x.step(100), Modes.RUNNING);
        Due.is("step(100099)", x.step(100099), Modes.RUNNING);
        StartSleep y = Modes.in(Modes.RUNNING);
        y.step(100);
        Due.is("request(1, true) at 100", y.request(1, true), -3);
        Due.is("user() at 100", y.user(), 0);
    }

    /** Terms: "since the last one REQUESTED no more", by a user that did so within one tick. */
    private static void onAndOffInOneTick() {
        StartSleep x = Modes.in(Modes.RUNNING);
        x.step(99);
        x.request(1, true);
        x.request(1, false);
        Due.is("step(198)", x.step(198), Modes.RUNNING);
        Due.is("step(199)", x.step(199), Modes.ASLEEP);
    }

    /** Terms: the same sentence, for users that tell what they told before. */
    private static void tellingAgainBeginsNothingAnew() {
        StartSleep x = Modes.in(Modes.RUNNING);
        x.request(1, true);
        x.step(10);
        x.request(1, false);
        x.step(60);
        x.request(1, false);
        x.request(2, false);
        Due.is("step(109)", x.step(109), Modes.RUNNING);
        Due.is("step(110), 100 ticks since the one did", x.step(110), Modes.ASLEEP);
    }

    /** Terms: "or since it is RUNNING", when the last one REQUESTED no more before that. */
    private static void releaseBeforeItIsRunning() {
        StartSleep x = Modes.in(Modes.CHECKING);
        x.request(1, true);
        x.step(105);
        x.request(1, false);
        x.step(115);
        x.wake(1, true);
        Due.is("step(214)", x.step(214), Modes.RUNNING);
        Due.is("step(215)", x.step(215), Modes.ASLEEP);
    }

    /** Promise 3: "-3 it is OFF, ASLEEP or EMERGENCY." */
    private static void refusingModes() {
        for (int mode = 0; mode <= 5; mode++) {
            int m = mode;
            boolean refuses = m == Modes.OFF || m == Modes.ASLEEP || m == Modes.EMERGENCY;
            for (int user = 1; user <= 16; user += 15) {
                int u = user;
                if (refuses) {
                    Due.changesNothing("request(" + u + ", true) in mode " + m, x -> midst(x, m),
                            x -> x.request(u, true), -3);
                    Due.changesNothing("request(" + u + ", false) in mode " + m, x -> midst(x, m),
                            x -> x.request(u, false), -3);
                } else {
                    Due.is("request(" + u + ", true) in mode " + m, Modes.in(m).request(u, true), 1);
                    Due.is("request(" + u + ", false) in mode " + m, Modes.in(m).request(u, false), 0);
                }
            }
        }
    }

    /** Terms: "at the end of each: if a user REQUESTS, RUNNING (the others stay CHANGED)", for each of eight. */
    private static void atTheEndOfEachBlock() {
        for (int last = 0; last < 8; last++) {
            StartSleep x = Modes.in(Modes.RUNNING);
            for (int n = 0; n < 8; n++) {
                x.write(n, 15, (byte) -1);
            }
            x.step(104 + last * 5);
            Due.is("request(16, true) in the last tick of block " + last, x.request(16, true), 1);
            Due.is("step() to the end of block " + last, x.step(105 + last * 5), Modes.RUNNING);
            for (int n = 0; n < 8; n++) {
                Due.is("block(" + n + ") behind block " + last, x.block(n), n <= last ? 0 : 1);
                Due.is("kept(" + n + ", 15) behind block " + last, Due.kept(x, n, 15), n <= last ? -1 : 0);
            }
            Due.is("time(2)", x.time(2), 0);
        }
    }

    /** Terms: the same sentence, where none is left: RUNNING stands before ASLEEP. */
    private static void atTheLastBlocksEnd() {
        StartSleep x = Modes.in(Modes.RUNNING);
        x.write(7, 0, (byte) 1);
        x.step(100);
        x.request(1, true);
        Due.is("step(105)", x.step(105), Modes.RUNNING);
        x.request(1, false);
        Due.is("step(204)", x.step(204), Modes.RUNNING);
        Due.is("step(205), with nothing left to save", x.step(205), Modes.ASLEEP);
        Due.is("time(2)", x.time(2), 1);
    }

    /** Terms: "at the end of each: if a user REQUESTS": then, not before. */
    private static void takenBackAtABlocksEnd() {
        StartSleep x = Modes.in(Modes.SAVING);
        x.request(1, true);
        x.step(104);
        x.request(1, false);
        Due.is("step(105), the request being taken back", x.step(105), Modes.SAVING);
        x.request(2, true);
        Due.is("step(109)", x.step(109), Modes.SAVING);
        x.request(2, false);
        Due.is("step(110), the request being taken back", x.step(110), Modes.ASLEEP);
    }

    /** Promise 2: a user that REQUESTED while it was CHECKING does so until it is told otherwise, ASLEEP too. */
    private static void staysThroughSleep() {
        StartSleep x = Modes.in(Modes.CHECKING);
        x.request(16, true);
        Due.is("step(120)", x.step(120), Modes.ASLEEP);
        Due.is("user() when asleep", x.user(), 1);
        Due.is("request(16, false) when asleep", x.request(16, false), -3);
        Due.is("user() behind the refusal", x.user(), 1);
        x.wake(1, true);
        Due.is("step(100120) with it", x.step(100120), Modes.RUNNING);
    }

    /** Terms: "no user REQUESTS", behind a STARTING, of all sixteen, and of one that ends in EMERGENCY too. */
    private static void noneBehindStarting() {
        for (int fails = 0; fails <= 1; fails++) {
            StartSleep x = Modes.in(Modes.RUNNING);
            for (int user = 1; user <= 16; user++) {
                x.request(user, true);
            }
            x.cut(10);
            x.init(1, 1, fails == 1);
            Due.is("start()", x.start(), fails == 1 ? Modes.EMERGENCY : Modes.RUNNING);
            Due.is("user() behind it", x.user(), 0);
            Due.is("step(110)", x.step(110), fails == 1 ? Modes.EMERGENCY : Modes.ASLEEP);
        }
    }

    /** Terms: the same sentence: each one's next request counts, and keeps awake, as its first did. */
    private static void eachRequestsAnewBehindStarting() {
        StartSleep x = Modes.in(Modes.RUNNING);
        for (int user = 1; user <= 16; user++) {
            x.request(user, true);
        }
        x.cut(10);
        x.start();
        for (int user = 1; user <= 16; user++) {
            Due.is("request(" + user + ", true) behind it", x.request(user, true), user);
        }
        Due.is("step(100010) with all", x.step(100010), Modes.RUNNING);
    }

    // Some ticks behind the mode's beginning, so that a time begun anew would be seen.
    private static void midst(StartSleep x, int mode) {
        Modes.enter(x, mode);
        x.step(x.time(0) + 3);
    }
}
