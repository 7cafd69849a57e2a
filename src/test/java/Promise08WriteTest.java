/** Promise 8: write. */
final class Promise08WriteTest {
    public static void main(String[] args) {
        writesEveryOctet();
        writesInEmergency();
        doesNotKeepAwake();
        refusals();
        Due.end();
    }

    private static void writesEveryOctet() {
        StartSleep x = Modes.in(Modes.RUNNING);
        for (int n = 0; n < 128; n++) {
            Due.is("write(" + n / 16 + ", " + n % 16 + ", ..)", x.write(n / 16, n % 16, (byte) (n * 2 - 128)), 1);
        }
        Due.is("kept(7, 15) before it is saved", Due.kept(x, 7, 15), 0);
        x.step(140);
        for (int n = 0; n < 128; n++) {
            Due.is("kept(" + n / 16 + ", " + n % 16 + ")", Due.kept(x, n / 16, n % 16), n * 2 - 128);
        }
    }

    private static void writesInEmergency() {
        StartSleep x = Modes.in(Modes.EMERGENCY);
        Due.is("write(5, 5, 5) in emergency", x.write(5, 5, (byte) 5), 1);
        Due.is("block(5) in emergency", x.block(5), 1);
        Due.is("step(100000) in emergency", x.step(100000), 5);
        Due.is("block(5), as nothing is saved in emergency", x.block(5), 1);
        Due.is("kept(5, 5), as nothing is saved in emergency", Due.kept(x, 5, 5), 0);
    }

    private static void doesNotKeepAwake() {
        StartSleep x = Modes.in(Modes.RUNNING);
        x.step(99);
        x.write(0, 0, (byte) 1);
        Due.is("step(100) behind write()", x.step(100), 2);
    }

    private static void refusals() {
        int[] blocks = {-1, 8, Integer.MIN_VALUE, Integer.MAX_VALUE};
        int[] octets = {-1, 16, Integer.MIN_VALUE, Integer.MAX_VALUE};
        for (int mode = 0; mode <= 5; mode++) {
            int m = mode;
            for (int n : blocks) {
                Due.changesNothing("write(" + n + ", 0, 1) in mode " + m, x -> Modes.enter(x, m),
                        x -> x.write(n, 0, (byte) 1), -1);
                Due.changesNothing("write(" + n + ", 16, 1) in mode " + m, x -> Modes.enter(x, m),
                        x -> x.write(n, 16, (byte) 1), -1);
            }
            for (int i : octets) {
                Due.changesNothing("write(3, " + i + ", 1) in mode " + m, x -> Modes.enter(x, m),
                        x -> x.write(3, i, (byte) 1), -2);
            }
        }
        int[] refusing = {Modes.OFF, Modes.SAVING, Modes.ASLEEP, Modes.CHECKING};
        for (int mode : refusing) {
            Due.changesNothing("write(3, 3, 1) in mode " + mode, x -> Modes.enter(x, mode),
                    x -> x.write(3, 3, (byte) 1), -3);
        }
    }
}
