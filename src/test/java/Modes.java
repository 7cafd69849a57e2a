/** Ways that lead a new object into each mode; those that save have blocks 1 and 3 changed. */
final class Modes {
    static final int OFF = 0;
    static final int RUNNING = 1;
    static final int SAVING = 2;
    static final int ASLEEP = 3;
    static final int CHECKING = 4;
    static final int EMERGENCY = 5;

    private Modes() {
    }

    static StartSleep in(int mode) {
        StartSleep x = new StartSleep();
        enter(x, mode);
        return x;
    }

    static void enter(StartSleep x, int mode) {
        switch (mode) {
            case RUNNING -> running(x);
            case SAVING -> saving(x);
            case ASLEEP -> asleep(x);
            case CHECKING -> checking(x);
            case EMERGENCY -> emergency(x);
            default -> { }
        }
        Due.is("the mode that a test begins in", Due.mode(x), mode);
    }

    /** RUNNING since 0. */
    static void running(StartSleep x) {
        x.start();
    }

    /** SAVING since 100: block 1 until 105, block 3 until 110. */
    static void saving(StartSleep x) {
        x.start();
        x.write(1, 0, (byte) 11);
        x.write(3, 15, (byte) -13);
        x.step(100);
    }

    /** ASLEEP since 100. */
    static void asleep(StartSleep x) {
        x.start();
        x.step(100);
    }

    /** CHECKING since 100. */
    static void checking(StartSleep x) {
        asleep(x);
        x.wake(1, false);
    }

    /** EMERGENCY since 0, as part 4 failed behind part 2. */
    static void emergency(StartSleep x) {
        x.init(2, 1, false);
        x.init(4, 1, true);
        x.start();
    }
}
