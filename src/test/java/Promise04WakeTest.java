/** Promise 4: wake, and the end of CHECKING. */
final class Promise04WakeTest {
    public static void main(String[] args) {
        validWakes();
        otherwiseChecking();
        validWhileChecking();
        notValidWhileChecking();
        otherModes();
        refusals();
        Due.end();
    }

    private static void validWakes() {
        for (int source = 1; source <= 8; source++) {
            StartSleep x = Modes.in(Modes.ASLEEP);
            x.step(150);
            Due.is("wake(" + source + ", true) when asleep", x.wake(source, true), 1);
            Due.is("step(249)", x.step(249), 1);
            Due.is("step(250)", x.step(250), 3);
            Due.is("time(2)", x.time(2), 2);
            Due.is("time(3)", x.time(3), 0);
        }
    }

    private static void otherwiseChecking() {
        for (int source = 1; source <= 8; source++) {
            StartSleep x = Modes.in(Modes.ASLEEP);
            x.step(150);
            Due.is("wake(" + source + ", false) when asleep", x.wake(source, false), 4);
            Due.is("step(169)", x.step(169), 4);
            Due.is("step(170)", x.step(170), 3);
            Due.is("time(2)", x.time(2), 2);
            Due.is("time(3)", x.time(3), 1);
        }
    }

    private static void validWhileChecking() {
        StartSleep x = Modes.in(Modes.CHECKING);
        x.step(119);
        Due.is("wake(8, true) when checking", x.wake(8, true), 1);
        Due.is("step(120) behind it", x.step(120), 1);
        Due.is("step(218) behind it", x.step(218), 1);
        Due.is("step(219) behind it", x.step(219), 3);
    }

    private static void notValidWhileChecking() {
        StartSleep x = Modes.in(Modes.CHECKING);
        x.step(110);
        Due.is("wake(1, false) when checking", x.wake(1, false), 4);
        Due.is("time(3) behind it", x.time(3), 1);
        Due.is("step(119) behind it", x.step(119), 4);
        Due.is("step(120) behind it", x.step(120), 3);
    }

    private static void otherModes() {
        int[] modes = {Modes.OFF, Modes.RUNNING, Modes.SAVING, Modes.EMERGENCY};
        for (int mode : modes) {
            Due.changesNothing("wake(1, true) in mode " + mode, x -> inTheMidst(x, mode), x -> x.wake(1, true), mode);
            Due.changesNothing("wake(8, false) in mode " + mode, x -> inTheMidst(x, mode), x -> x.wake(8, false), mode);
        }
    }

    // Some ticks later, so that a time begun anew would be seen.
    private static void inTheMidst(StartSleep x, int mode) {
        Modes.enter(x, mode);
        x.step(x.time(0) + 3);
    }

    private static void refusals() {
        int[] unknown = {0, 9, -1, Integer.MIN_VALUE, Integer.MAX_VALUE};
        for (int mode = 0; mode <= 5; mode++) {
            int m = mode;
            for (int source : unknown) {
                Due.changesNothing("wake(" + source + ", true) in mode " + m, x -> Modes.enter(x, m),
                        x -> x.wake(source, true), -1);
                Due.changesNothing("wake(" + source + ", false) in mode " + m, x -> Modes.enter(x, m),
                        x -> x.wake(source, false), -1);
            }
        }
    }
}
