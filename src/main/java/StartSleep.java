/**
 * Starting and sleeping of a controller, as ../shared/DOC.md promises it.
 *
 * <p>At every moment at most one thing is to happen by itself (the end of a time without requests, of
 * a block's saving, or of a check); {@code due} is its time, and {@code advance} goes from one to the next.
 */
public final class StartSleep {
    private static final int UNKNOWN_NUMBER = -1;
    private static final int OUTSIDE_RANGE = -2;
    private static final int NOT_IN_THIS_MODE = -3;

    private static final int OFF = 0;
    private static final int RUNNING = 1;
    private static final int SAVING = 2;
    private static final int ASLEEP = 3;
    private static final int CHECKING = 4;
    private static final int EMERGENCY = 5;

    private static final long IDLE_TICKS = 100;
    private static final long SAVE_TICKS = 5;
    private static final long CHECK_TICKS = 20;
    private static final long MOST_TICKS_AT_ONCE = 100000;

    private static final int LAST_SOURCE = 8;
    private static final int LAST_ORDER = 100;

    private static final long NEVER = -1;
    private static final int NO_BLOCK = -1;

    // One call can pass ten at the most: the idle time's end, eight blocks saved, and no more once asleep.
    private static final int MOST_HAPPENINGS = 1000;

    private final Users users;
    private final Blocks blocks;
    private final Parts parts;

    private int mode;
    private long now;
    private long due;
    private int blockInSaving;

    private int bankThatRuns;
    private int bankToRun;

    private long startings;
    private long sleeps;
    private long checks;
    private long cuts;
    private long lastStarting;

    public StartSleep() {
        users = new Users();
        blocks = new Blocks();
        parts = new Parts();
        mode = OFF;
        due = NEVER;
        blockInSaving = NO_BLOCK;
    }

    public int user() {
        return users.howMany();
    }

    public int request(int user, boolean on) {
        if (!Users.has(user)) {
            return UNKNOWN_NUMBER;
        }
        if (mode == OFF || mode == ASLEEP || mode == EMERGENCY) {
            return NOT_IN_THIS_MODE;
        }
        boolean other = users.set(user, on);
        // A user that tells again what it told before must not begin the idle time anew.
        if (other && mode == RUNNING) {
            awaitIdleness();
        }
        return users.howMany();
    }

    public int wake(int source, boolean valid) {
        if (source < 1 || source > LAST_SOURCE) {
            return UNKNOWN_NUMBER;
        }
        if (valid && (mode == ASLEEP || mode == CHECKING)) {
            run();
        } else if (mode == ASLEEP) {
            check();
        }
        return mode;
    }

    public int step(long t) {
        if (!canAdvance(t)) {
            return OUTSIDE_RANGE;
        }
        advance(t);
        return mode;
    }

    public int init(int part, int order, boolean fails) {
        if (!Parts.has(part)) {
            return UNKNOWN_NUMBER;
        }
        if (order < 0 || order > LAST_ORDER) {
            return OUTSIDE_RANGE;
        }
        if (mode != OFF) {
            return NOT_IN_THIS_MODE;
        }
        parts.tell(part, order, fails);
        return parts.howMany();
    }

    public int block(int n) {
        if (!Blocks.has(n)) {
            return UNKNOWN_NUMBER;
        }
        return blocks.isChanged(n) ? 1 : 0;
    }

    public int write(int block, int i, byte b) {
        if (!Blocks.has(block)) {
            return UNKNOWN_NUMBER;
        }
        if (!Blocks.hasOctet(i)) {
            return OUTSIDE_RANGE;
        }
        if (mode != RUNNING && mode != EMERGENCY) {
            return NOT_IN_THIS_MODE;
        }
        blocks.put(block, i, b);
        return 1;
    }

    public int cut(long t) {
        if (!canAdvance(t)) {
            return OUTSIDE_RANGE;
        }
        if (mode == OFF) {
            return NOT_IN_THIS_MODE;
        }
        advance(t);
        cuts++;
        // The copy that was being written stays torn, as it is from the beginning of its saving on.
        blockInSaving = NO_BLOCK;
        enter(OFF, NEVER);
        return blocks.howManyChanged();
    }

    public int start() {
        if (mode != OFF) {
            return NOT_IN_THIS_MODE;
        }
        startings++;
        lastStarting = now;
        bankThatRuns = bankToRun;
        blocks.load();
        users.clear();
        if (parts.beginAll()) {
            run();
        } else {
            enter(EMERGENCY, NEVER);
        }
        return mode;
    }

    public byte kept(int block, int i) throws ArrayIndexOutOfBoundsException {
        if (!Blocks.has(block) || !Blocks.hasOctet(i)) {
            throw new ArrayIndexOutOfBoundsException("no such block or octet");
        }
        return blocks.keptOctet(block, i);
    }

    public int bank(boolean whole) {
        if (!whole) {
            bankToRun = 1 - bankToRun;
        }
        return bankToRun;
    }

    public long time(int what) {
        switch (what) {
            case 0:
                return now;
            case 1:
                return startings;
            case 2:
                return sleeps;
            case 3:
                return checks;
            case 4:
                return cuts;
            case 5:
                return lastStarting;
            case 6:
                return bankThatRuns;
            default:
                return OUTSIDE_RANGE;
        }
    }

    public int order(int i) {
        return parts.thing(i);
    }

    private boolean canAdvance(long t) {
        // The time is never negative, so the difference behind the first test can't wrap around.
        return t >= now && t - now <= MOST_TICKS_AT_ONCE;
    }

    private void advance(long t) {
        for (int n = 0; n < MOST_HAPPENINGS && due != NEVER && due <= t; n++) {
            now = due;
            happen();
        }
        now = t;
    }

    private void happen() {
        if (mode == RUNNING) {
            saveNextOrSleep();
        } else if (mode == SAVING) {
            endSaving();
        } else {
            sleep();
        }
    }

    private void saveNextOrSleep() {
        blockInSaving = blocks.firstChanged();
        if (blockInSaving == NO_BLOCK) {
            sleep();
        } else {
            blocks.tear(blockInSaving);
            enter(SAVING, now + SAVE_TICKS);
        }
    }

    private void endSaving() {
        blocks.save(blockInSaving);
        blockInSaving = NO_BLOCK;
        if (users.howMany() > 0) {
            run();
        } else {
            saveNextOrSleep();
        }
    }

    private void run() {
        mode = RUNNING;
        awaitIdleness();
    }

    private void awaitIdleness() {
        due = users.howMany() == 0 ? now + IDLE_TICKS : NEVER;
    }

    private void sleep() {
        sleeps++;
        enter(ASLEEP, NEVER);
    }

    private void check() {
        checks++;
        enter(CHECKING, now + CHECK_TICKS);
    }

    private void enter(int newMode, long newDue) {
        mode = newMode;
        due = newDue;
    }

    /** Which users request; a user's own number is its index. */
    private static final class Users {
        private static final int LAST = 16;

        private final boolean[] requests = new boolean[LAST + 1];
        private int requesting;

        Users() {
        }

        static boolean has(int user) {
            return user >= 1 && user <= LAST;
        }

        int howMany() {
            return requesting;
        }

        /** Whether the user did otherwise before. */
        boolean set(int user, boolean on) {
            if (!has(user) || requests[user] == on) {
                return false;
            }
            requests[user] = on;
            requesting += on ? 1 : -1;
            return true;
        }

        void clear() {
            for (int user = 0; user < requests.length; user++) {
                requests[user] = false;
            }
            requesting = 0;
        }
    }

    /** Working rows and their two copies; all rows of one kind lie one behind the other in one array. */
    private static final class Blocks {
        private static final int COUNT = 8;
        private static final int OCTETS = 16;

        private final byte[] working = new byte[COUNT * OCTETS];
        private final byte[][] copies = new byte[2][COUNT * OCTETS];
        private final int[][] versions = new int[2][COUNT];
        private final boolean[] changed = new boolean[COUNT];

        Blocks() {
        }

        static boolean has(int n) {
            return n >= 0 && n < COUNT;
        }

        static boolean hasOctet(int i) {
            return i >= 0 && i < OCTETS;
        }

        boolean isChanged(int n) {
            return has(n) && changed[n];
        }

        int howManyChanged() {
            int count = 0;
            for (int n = 0; n < COUNT; n++) {
                if (changed[n]) {
                    count++;
                }
            }
            return count;
        }

        int firstChanged() {
            for (int n = 0; n < COUNT; n++) {
                if (changed[n]) {
                    return n;
                }
            }
            return NO_BLOCK;
        }

        void put(int n, int i, byte b) {
            if (has(n) && hasOctet(i)) {
                working[n * OCTETS + i] = b;
                changed[n] = true;
            }
        }

        byte keptOctet(int n, int i) {
            return has(n) && hasOctet(i) ? copies[keptCopy(n)][n * OCTETS + i] : 0;
        }

        void tear(int n) {
            if (has(n)) {
                versions[1 - keptCopy(n)][n] = 0;
            }
        }

        void save(int n) {
            if (has(n)) {
                int kept = keptCopy(n);
                int torn = 1 - kept;
                System.arraycopy(working, n * OCTETS, copies[torn], n * OCTETS, OCTETS);
                versions[torn][n] = versions[kept][n] + 1;
                changed[n] = false;
            }
        }

        void load() {
            for (int n = 0; n < COUNT; n++) {
                System.arraycopy(copies[keptCopy(n)], n * OCTETS, working, n * OCTETS, OCTETS);
                changed[n] = false;
            }
        }

        // Each caller has tested the number.
        private int keptCopy(int n) {
            return versions[1][n] > versions[0][n] ? 1 : 0;
        }
    }

    /** The parts that were told, and what happened to them in the last starting. */
    private static final class Parts {
        private static final int LAST = 20;
        private static final int PLACES_OF_AN_ORDER = LAST + 1;
        private static final int NO_PLACE = -1;

        private final boolean[] told = new boolean[LAST + 1];
        private final int[] places = new int[LAST + 1];
        private final boolean[] failing = new boolean[LAST + 1];
        private int count;

        private final int[] things = new int[2 * LAST];
        private int thingCount;

        Parts() {
        }

        static boolean has(int part) {
            return part >= 1 && part <= LAST;
        }

        int howMany() {
            return count;
        }

        void tell(int part, int order, boolean fails) {
            if (!has(part)) {
                return;
            }
            if (!told[part]) {
                told[part] = true;
                count++;
            }
            // One number for both, so that parts compare by their orders first and then by their numbers.
            places[part] = order * PLACES_OF_AN_ORDER + part;
            failing[part] = fails;
        }

        /** Whether all parts began, without one that fails. */
        boolean beginAll() {
            thingCount = 0;
            int place = placeBehind(NO_PLACE);
            for (int n = 0; n < LAST && place != NO_PLACE; n++) {
                int part = place % PLACES_OF_AN_ORDER;
                note(part);
                if (has(part) && failing[part]) {
                    endThoseBeforeTheLast();
                    return false;
                }
                place = placeBehind(place);
            }
            return true;
        }

        int thing(int i) {
            return i >= 0 && i < thingCount && i < things.length ? things[i] : 0;
        }

        private int placeBehind(int place) {
            int next = NO_PLACE;
            for (int part = 1; part <= LAST; part++) {
                if (told[part] && places[part] > place && (next == NO_PLACE || places[part] < next)) {
                    next = places[part];
                }
            }
            return next;
        }

        private void endThoseBeforeTheLast() {
            for (int i = thingCount - 2; i >= 0; i--) {
                note(-thing(i));
            }
        }

        private void note(int thing) {
            if (thingCount >= 0 && thingCount < things.length) {
                things[thingCount] = thing;
                thingCount++;
            }
        }
    }
}
