/** Promise 7: block. */
final class Promise07BlockTest {
    public static void main(String[] args) {
        isChangedByWriting();
        isNotChangedWhenSaved();
        isNotChangedWhenLoaded();
        refusals();
        Due.end();
    }

    private static void isChangedByWriting() {
        for (int written = 0; written < 8; written++) {
            StartSleep x = Modes.in(Modes.RUNNING);
            // The octet is 0 before: being written to counts, not being another one.
            x.write(written, 0, (byte) 0);
            for (int n = 0; n < 8; n++) {
                Due.is("block(" + n + ") with " + written + " written", x.block(n), n == written ? 1 : 0);
            }
        }
    }

    private static void isNotChangedWhenSaved() {
        StartSleep x = Modes.in(Modes.SAVING);
        Due.is("block(1) when its saving begins", x.block(1), 1);
        x.step(104);
        Due.is("block(1) before its saving ends", x.block(1), 1);
        x.step(105);
        Due.is("block(1) when its saving ends", x.block(1), 0);
        Due.is("block(3) when its saving begins", x.block(3), 1);
        x.step(110);
        Due.is("block(3) when its saving ends", x.block(3), 0);
        x.wake(1, true);
        x.write(1, 1, (byte) 1);
        Due.is("block(1) written again", x.block(1), 1);
    }

    private static void isNotChangedWhenLoaded() {
        StartSleep x = Modes.in(Modes.RUNNING);
        x.write(2, 2, (byte) 2);
        x.cut(1);
        Due.is("block(2) before it is loaded", x.block(2), 1);
        x.start();
        Due.is("block(2) when it is loaded", x.block(2), 0);
    }

    private static void refusals() {
        int[] unknown = {-1, 8, Integer.MIN_VALUE, Integer.MAX_VALUE};
        for (int mode = 0; mode <= 5; mode++) {
            int m = mode;
            for (int n : unknown) {
                Due.changesNothing("block(" + n + ") in mode " + m, x -> Modes.enter(x, m), x -> x.block(n), -1);
            }
            Due.changesNothing("block(0) in mode " + m, x -> Modes.enter(x, m), x -> x.block(0), 0);
        }
    }
}
