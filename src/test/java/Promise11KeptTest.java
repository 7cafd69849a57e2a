/** Promise 11: kept. */
final class Promise11KeptTest {
    public static void main(String[] args) {
        keepsWhatWasSavedLast();
        wholeRowIsKept();
        throwsForWhatThereIsNot();
        Due.end();
    }

    private static void keepsWhatWasSavedLast() {
        StartSleep x = Modes.in(Modes.RUNNING);
        for (int round = 1; round <= 20; round++) {
            long now = x.time(0);
            x.write(7, 15, (byte) -round);
            x.step(now + 104);
            Due.is("kept(7, 15) before saving " + round + " ends", Due.kept(x, 7, 15), 1 - round);
            x.step(now + 105);
            Due.is("kept(7, 15) when saving " + round + " ends", Due.kept(x, 7, 15), -round);
            x.wake(1, true);
        }
    }

    // An octet that was written once must be in both copies, as each save takes the whole working row.
    private static void wholeRowIsKept() {
        StartSleep x = Modes.in(Modes.RUNNING);
        x.write(0, 0, (byte) 127);
        x.write(0, 15, (byte) -128);
        for (int round = 1; round <= 5; round++) {
            x.write(0, 7, (byte) round);
            x.step(x.time(0) + 105);
            Due.is("kept(0, 0) in round " + round, Due.kept(x, 0, 0), 127);
            Due.is("kept(0, 7) in round " + round, Due.kept(x, 0, 7), round);
            Due.is("kept(0, 15) in round " + round, Due.kept(x, 0, 15), -128);
            Due.is("kept(1, 0) in round " + round, Due.kept(x, 1, 0), 0);
            x.wake(1, true);
        }
    }

    private static void throwsForWhatThereIsNot() {
        int[][] none = {{8, 0}, {-1, 0}, {0, 16}, {0, -1}, {7, 16}, {8, 16}, {-1, -1}, {-1, 16}, {1, -16}, {8, -16},
            {Integer.MIN_VALUE, 0}, {Integer.MAX_VALUE, 0}, {0, Integer.MIN_VALUE}, {0, Integer.MAX_VALUE},
            {Integer.MIN_VALUE, Integer.MIN_VALUE}, {Integer.MAX_VALUE, Integer.MAX_VALUE}, {1 << 28, 0}};
        for (int mode = 0; mode <= 5; mode++) {
            int m = mode;
            for (int[] place : none) {
                Due.changesNothing("kept(" + place[0] + ", " + place[1] + ") in mode " + m, x -> Modes.enter(x, m),
                        x -> Due.kept(x, place[0], place[1]), Due.THROWN);
            }
            Due.changesNothing("kept(7, 15) in mode " + m, x -> Modes.enter(x, m), x -> Due.kept(x, 7, 15), 0);
        }
        isThrownByTheClassItself();
    }

    private static void isThrownByTheClassItself() {
        try {
            new StartSleep().kept(8, 0);
            Due.isTrue("kept(8, 0) throws", false);
        } catch (ArrayIndexOutOfBoundsException e) {
            Due.isTrue("the text is the class's own, not the machine's",
                    "no such block or octet".equals(e.getMessage()));
        }
    }
}
