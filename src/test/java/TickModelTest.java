import java.util.Random;

/** Many runs of calls, always the same ones, whose answers are compared with the model's. */
final class TickModelTest {
    private static final int RUNS = 4000;
    private static final int CALLS = 512;
    private static final int[] ODD = {Integer.MIN_VALUE, Integer.MAX_VALUE, -1, 0, 7, 8, 9, 16, 17, 20, 21, 100, 101};
    private static final long[] ODD_TIMES = {Long.MIN_VALUE, Long.MAX_VALUE, -1, 0};
    private static final int[] PIECES = {0, 1, 1, 2, 3, 4, 5, 6, 10, 15, 19, 20, 21, 40, 60, 95, 99, 100, 101, 105};

    private final Random random;
    private final StartSleep x = new StartSleep();
    private final TickModel model = new TickModel();
    private final int run;
    private int call;

    private TickModelTest(int run) {
        this.run = run;
        this.random = new Random(run);
    }

    public static void main(String[] args) {
        int[] seen = new int[6];
        for (int run = 0; run < RUNS; run++) {
            TickModelTest test = new TickModelTest(run);
            for (test.call = 1; test.call <= CALLS; test.call++) {
                test.callOne(seen);
            }
        }
        for (int mode = 0; mode < seen.length; mode++) {
            Due.isTrue("the runs come often into mode " + mode + " (" + seen[mode] + " times)", seen[mode] > 5000);
        }
        Due.end();
    }

    private void callOne(int[] seen) {
        int kind = random.nextInt(100);
        if (kind < 30) {
            callStep(seen);
        } else if (kind < 45) {
            callUsers();
        } else if (kind < 60) {
            callBlocks();
        } else if (kind < 75) {
            callPower();
        } else {
            look();
        }
    }

    private void callStep(int[] seen) {
        long t = someTime();
        int mode = model.step(t);
        due("step(" + t + ")", x.step(t), mode);
        if (mode >= 0) {
            seen[mode]++;
        }
    }

    private void callUsers() {
        if (random.nextBoolean()) {
            int user = some(1, random.nextInt(4) > 0 ? 2 : 16);
            boolean on = random.nextInt(5) == 0;
            due("request(" + user + ", " + on + ")", x.request(user, on), model.request(user, on));
        } else {
            int source = some(1, 8);
            boolean valid = random.nextInt(3) > 0;
            due("wake(" + source + ", " + valid + ")", x.wake(source, valid), model.wake(source, valid));
        }
    }

    private void callBlocks() {
        int block = some(0, 7);
        int i = some(0, 15);
        byte b = (byte) random.nextInt(256);
        due("write(" + block + ", " + i + ", " + b + ")", x.write(block, i, b), model.write(block, i, b));
    }

    private void callPower() {
        int kind = random.nextInt(12);
        if (kind < 1) {
            long t = someTime();
            due("cut(" + t + ")", x.cut(t), model.cut(t));
        } else if (kind < 7) {
            due("start()", x.start(), model.start());
        } else if (kind < 11) {
            int part = some(1, 20);
            int order = random.nextBoolean() ? some(0, 100) : some(0, 3);
            boolean fails = random.nextInt(40) == 0;
            due("init(" + part + ", " + order + ", " + fails + ")", x.init(part, order, fails),
                    model.init(part, order, fails));
        } else {
            boolean whole = random.nextBoolean();
            due("bank(" + whole + ")", x.bank(whole), model.bank(whole));
        }
    }

    private void look() {
        switch (random.nextInt(6)) {
            case 0 -> due("user()", x.user(), model.user());
            case 1 -> lookAtBlock();
            case 2 -> lookAtTime();
            case 3 -> lookAtOrder();
            default -> lookAtKept();
        }
    }

    private void lookAtBlock() {
        int n = some(0, 7);
        due("block(" + n + ")", x.block(n), model.block(n));
    }

    private void lookAtTime() {
        int what = some(0, 6);
        due("time(" + what + ")", x.time(what), model.time(what));
    }

    private void lookAtOrder() {
        int i = some(0, random.nextBoolean() ? 8 : 40);
        due("order(" + i + ")", x.order(i), model.order(i));
    }

    private void lookAtKept() {
        int block = some(0, 7);
        int i = some(0, 15);
        due("kept(" + block + ", " + i + ")", Due.kept(x, block, i), model.kept(block, i));
    }

    private int some(int from, int to) {
        return random.nextInt(16) == 0 ? ODD[random.nextInt(ODD.length)] : from + random.nextInt(to - from + 1);
    }

    private long someTime() {
        long now = model.time(0);
        int kind = random.nextInt(200);
        if (kind < 4) {
            return ODD_TIMES[kind];
        }
        if (kind < 8) {
            return now + 100000 + random.nextInt(2);
        }
        if (kind < 12) {
            return now - 1;
        }
        return now + PIECES[random.nextInt(PIECES.length)];
    }

    private void due(String told, long got, long want) {
        Due.is("run " + run + ", call " + call + ": " + told, got, want);
    }
}
