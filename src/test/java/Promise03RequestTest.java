/** Promise 3: request, and the time that it keeps the controller awake. */
final class Promise03RequestTest {
    public static void main(String[] args) {
        answersHowMany();
        keepsAwake();
        lastReleaseCounts();
        repeatedReleaseDoesNotCount();
        endsSavingAtABlocksEnd();
        takenBackWhileSaving();
        doesNotEndChecking();
        refusals();
        Due.end();
    }

    private static void answersHowMany() {
        int[] modes = {Modes.RUNNING, Modes.SAVING, Modes.CHECKING};
        for (int mode : modes) {
            StartSleep x = Modes.in(mode);
            Due.is("request(1, true) in mode " + mode, x.request(1, true), 1);
            Due.is("request(16, true) in mode " + mode, x.request(16, true), 2);
            Due.is("request(16, true) again in mode " + mode, x.request(16, true), 2);
            Due.is("request(1, false) in mode " + mode, x.request(1, false), 1);
            Due.is("request(1, false) again in mode " + mode, x.request(1, false), 1);
            Due.is("request(16, false) in mode " + mode, x.request(16, false), 0);
            Due.is("mode after requests in mode " + mode, Due.mode(x), mode);
        }
    }

    private static void keepsAwake() {
        StartSleep x = Modes.in(Modes.RUNNING);
        x.step(99);
        x.request(4, true);
        Due.is("step(50000) with a user", x.step(50000), 1);
        x.request(4, false);
        Due.is("step(50099) behind its release", x.step(50099), 1);
        Due.is("step(50100) behind its release", x.step(50100), 3);
    }

    private static void lastReleaseCounts() {
        StartSleep x = Modes.in(Modes.RUNNING);
        x.request(4, true);
        x.request(5, true);
        x.step(200);
        x.request(4, false);
        Due.is("step(400) with one user left", x.step(400), 1);
        x.request(5, false);
        Due.is("step(499)", x.step(499), 1);
        Due.is("step(500)", x.step(500), 3);
    }

    private static void repeatedReleaseDoesNotCount() {
        StartSleep x = Modes.in(Modes.RUNNING);
        x.step(60);
        x.request(4, false);
        Due.is("step(100) behind the release of a user that did not request", x.step(100), 3);
    }

    private static void endsSavingAtABlocksEnd() {
        StartSleep x = Modes.in(Modes.SAVING);
        x.step(102);
        x.request(1, true);
        Due.is("step(104) in saving", x.step(104), 2);
        Due.is("step(105) at a block's end with a user", x.step(105), 1);
        Due.is("block(1) that was saved", x.block(1), 0);
        Due.is("block(3) that stays changed", x.block(3), 1);
        Due.is("step(1000) with a user", x.step(1000), 1);
        x.request(1, false);
        Due.is("step(1099)", x.step(1099), 1);
        Due.is("step(1100)", x.step(1100), 2);
        x.request(1, true);
        Due.is("step(1105) at the last block's end with a user", x.step(1105), 1);
        Due.is("block(3) in the end", x.block(3), 0);
        Due.is("time(2)", x.time(2), 0);
    }

    private static void takenBackWhileSaving() {
        StartSleep x = Modes.in(Modes.SAVING);
        x.request(1, true);
        x.step(104);
        x.request(1, false);
        Due.is("step(105) with the request taken back", x.step(105), 2);
        Due.is("step(109) with the request taken back", x.step(109), 2);
        Due.is("step(110) with the request taken back", x.step(110), 3);
    }

    private static void doesNotEndChecking() {
        StartSleep x = Modes.in(Modes.CHECKING);
        x.request(7, true);
        Due.is("step(119) in checking with a user", x.step(119), 4);
        Due.is("step(120) in checking with a user", x.step(120), 3);
        Due.is("user() when asleep", x.user(), 1);
        x.wake(8, true);
        Due.is("step(5000) awake with the user of before", x.step(5000), 1);
        x.request(7, false);
        Due.is("step(5099)", x.step(5099), 1);
        Due.is("step(5100)", x.step(5100), 3);
    }

    private static void refusals() {
        int[] unknown = {0, 17, -1, Integer.MIN_VALUE, Integer.MAX_VALUE};
        for (int mode = 0; mode <= 5; mode++) {
            int m = mode;
            for (int user : unknown) {
                Due.changesNothing("request(" + user + ", true) in mode " + m, x -> Modes.enter(x, m),
                        x -> x.request(user, true), -1);
                Due.changesNothing("request(" + user + ", false) in mode " + m, x -> Modes.enter(x, m),
                        x -> x.request(user, false), -1);
            }
        }
        int[] refusing = {Modes.OFF, Modes.ASLEEP, Modes.EMERGENCY};
        for (int mode : refusing) {
            Due.changesNothing("request(1, true) in mode " + mode, x -> Modes.enter(x, mode),
                    x -> x.request(1, true), -3);
            Due.changesNothing("request(16, false) in mode " + mode, x -> Modes.enter(x, mode),
                    x -> x.request(16, false), -3);
        }
    }
}
