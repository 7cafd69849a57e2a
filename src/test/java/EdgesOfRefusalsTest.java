import java.util.Random;

/** Boundary cases of refusals: "REFUSALS change nothing and answer, the first that fits: -1 .., -2 .., -3 ..". */
final class EdgesOfRefusalsTest {
    private static final int RUNS = 6000;
    // An object is used for 512 calls at the most, and each real call comes with up to three others.
    private static final int CALLS = 125;
    private static final int[] PIECES = {0, 1, 2, 4, 5, 10, 19, 20, 60, 99, 100, 105};

    public static void main(String[] args) {
        unknownNumberComesFirst();
        rangeComesBeforeMode();
        refusedCallsChangeNothing();
        Due.end();
    }

    /** "the first that fits: -1 an unknown number": before a range and before a mode that would refuse too. */
    private static void unknownNumberComesFirst() {
        for (int mode = 0; mode <= 5; mode++) {
            int m = mode;
            int[] orders = {-1, 0, 100, 101};
            for (int order : orders) {
                Due.changesNothing("init(0, " + order + ", true) in mode " + m, x -> Modes.enter(x, m),
                        x -> x.init(0, order, true), -1);
                Due.changesNothing("init(21, " + order + ", true) in mode " + m, x -> Modes.enter(x, m),
                        x -> x.init(21, order, true), -1);
            }
            int[] octets = {-1, 0, 15, 16};
            for (int i : octets) {
                Due.changesNothing("write(-1, " + i + ", 1) in mode " + m, x -> Modes.enter(x, m),
                        x -> x.write(-1, i, (byte) 1), -1);
                Due.changesNothing("write(8, " + i + ", 1) in mode " + m, x -> Modes.enter(x, m),
                        x -> x.write(8, i, (byte) 1), -1);
            }
            Due.changesNothing("request(0, true) in mode " + m, x -> Modes.enter(x, m), x -> x.request(0, true), -1);
            Due.changesNothing("request(17, true) in mode " + m, x -> Modes.enter(x, m), x -> x.request(17, true), -1);
        }
    }

    /** "the first that fits: .. -2 outside a range, -3 not in this mode". */
    private static void rangeComesBeforeMode() {
        for (int mode = 0; mode <= 5; mode++) {
            int m = mode;
            Due.changesNothing("init(1, -1, true) in mode " + m, x -> Modes.enter(x, m), x -> x.init(1, -1, true), -2);
            Due.changesNothing("init(1, 101, true) in mode " + m, x -> Modes.enter(x, m), x -> x.init(1, 101, true), -2);
            Due.changesNothing("write(0, -1, 1) in mode " + m, x -> Modes.enter(x, m),
                    x -> x.write(0, -1, (byte) 1), -2);
            Due.changesNothing("write(7, 16, 1) in mode " + m, x -> Modes.enter(x, m),
                    x -> x.write(7, 16, (byte) 1), -2);
            Due.changesNothing("cut(-1) in mode " + m, x -> Modes.enter(x, m), x -> x.cut(-1), -2);
            Due.changesNothing("cut(100001 later) in mode " + m, x -> Modes.enter(x, m),
                    x -> x.cut(x.time(0) + 100001), -2);
        }
        Due.changesNothing("cut(0) when OFF", x -> { }, x -> x.cut(0), -3);
        Due.changesNothing("cut(100000) when OFF", x -> { }, x -> x.cut(100000), -3);
    }

    /** "REFUSALS change nothing": of two objects with the same calls, one gets refused ones between them. */
    private static void refusedCallsChangeNothing() {
        int[] refused = new int[6];
        for (int run = 0; run < RUNS; run++) {
            Random random = new Random(run);
            StartSleep plain = new StartSleep();
            StartSleep bothered = new StartSleep();
            int mode = Modes.OFF;
            for (int call = 1; call <= CALLS; call++) {
                String told = "run " + run + ", call " + call;
                long now = plain.time(0);
                refuse(told, bothered, random, mode, now);
                refused[mode]++;
                long seed = random.nextLong();
                Due.is(told, real(bothered, new Random(seed), now), real(plain, new Random(seed), now));
                mode = Due.mode(plain);
            }
        }
        for (int mode = 0; mode < refused.length; mode++) {
            Due.isTrue("calls are often refused in mode " + mode + " (" + refused[mode] + ")", refused[mode] > 3000);
        }
    }

    private static long real(StartSleep x, Random random, long now) {
        switch (random.nextInt(14)) {
            case 0: case 1:
                return x.request(1 + random.nextInt(3), random.nextInt(4) == 0);
            case 2: case 3:
                return x.wake(1 + random.nextInt(8), random.nextBoolean());
            case 4: case 5:
                return x.write(random.nextInt(8), random.nextInt(16), (byte) random.nextInt());
            case 6:
                return random.nextInt(3) == 0 ? x.cut(now + random.nextInt(110)) : x.user();
            case 7:
                return x.init(1 + random.nextInt(20), random.nextInt(101), random.nextInt(20) == 0);
            case 8:
                return x.start();
            case 9:
                return look(x, random);
            case 10:
                return x.kept(random.nextInt(8), random.nextInt(16));
            default:
                return x.step(now + PIECES[random.nextInt(PIECES.length)]);
        }
    }

    private static long look(StartSleep x, Random random) {
        switch (random.nextInt(4)) {
            case 0:
                return x.block(random.nextInt(8));
            case 1:
                return x.order(random.nextInt(40));
            case 2:
                return x.bank(random.nextInt(3) > 0);
            default:
                return x.time(random.nextInt(7));
        }
    }

    /** One call that is refused, whose answer is told by the document for the mode and the time. */
    private static void refuse(String told, StartSleep x, Random random, int mode, long now) {
        boolean on = random.nextBoolean();
        int below = -random.nextInt(3);
        boolean many = random.nextBoolean();
        switch (random.nextInt(9)) {
            case 0:
                Due.is(told + ": request of no user", x.request(many ? 17 : below, on), -1);
                break;
            case 1:
                Due.is(told + ": wake by no source", x.wake(many ? 9 : below, on), -1);
                break;
            case 2:
                Due.is(told + ": step out of range", x.step(many ? now + 100001 : now - 1 + below), -2);
                break;
            case 3:
                Due.is(told + ": cut out of range", x.cut(many ? now + 100001 : now - 1 + below), -2);
                break;
            case 4:
                Due.is(told + ": init of no part", x.init(many ? 21 : below, 1, on), -1);
                break;
            case 5:
                Due.is(told + ": init of no order", x.init(1, many ? 101 : below - 1, on), -2);
                break;
            case 6:
                Due.is(told + ": write to no octet", x.write(0, many ? 16 : below - 1, (byte) 1), -2);
                break;
            case 7:
                Due.is(told + ": kept of none", Due.kept(x, on ? 8 : 0, on ? 0 : 16), Due.THROWN);
                break;
            default:
                refuseInThisMode(told, x, on, mode, now);
        }
    }

    private static void refuseInThisMode(String told, StartSleep x, boolean on, int mode, long now) {
        if (mode == Modes.OFF) {
            Due.is(told + ": -3 when OFF", on ? x.cut(now + 7) : x.write(3, 3, (byte) 3), -3);
        } else {
            Due.is(told + ": -3 when not OFF", on ? x.start() : x.init(1, 1, true), -3);
        }
        if (mode == Modes.ASLEEP || mode == Modes.EMERGENCY) {
            Due.is(told + ": request refused", x.request(1, on), -3);
        }
        if (mode == Modes.SAVING || mode == Modes.ASLEEP || mode == Modes.CHECKING) {
            Due.is(told + ": write refused", x.write(3, 3, (byte) 3), -3);
        }
    }
}
