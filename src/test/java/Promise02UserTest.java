/** Promise 2: user. */
final class Promise02UserTest {
    public static void main(String[] args) {
        countsThoseThatRequest();
        isClearedByStarting();
        Due.end();
    }

    private static void countsThoseThatRequest() {
        StartSleep x = Modes.in(Modes.RUNNING);
        Due.is("user() at first", x.user(), 0);
        for (int user = 1; user <= 16; user++) {
            x.request(user, true);
            Due.is("user() with " + user, x.user(), user);
        }
        x.request(3, true);
        Due.is("user() after a repeated request", x.user(), 16);
        x.request(3, false);
        x.request(3, false);
        Due.is("user() after a repeated release", x.user(), 15);
        x.request(17, true);
        Due.is("user() after a refusal", x.user(), 15);
    }

    private static void isClearedByStarting() {
        StartSleep x = Modes.in(Modes.RUNNING);
        x.request(2, true);
        x.request(9, true);
        x.cut(5);
        Due.is("user() when power was cut", x.user(), 2);
        x.start();
        Due.is("user() after the next starting", x.user(), 0);
        Due.is("request(2, true) after the next starting", x.request(2, true), 1);
    }
}
