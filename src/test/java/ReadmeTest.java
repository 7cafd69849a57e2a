import java.io.IOException;
import java.lang.reflect.Method;
import java.lang.reflect.Modifier;
import java.nio.file.Files;
import java.nio.file.Path;
import java.util.List;

/** README.md's example: each row's call is made here, and must answer what its comment tells. */
final class ReadmeTest {
    private final List<String> rows;
    private int next;

    private ReadmeTest(List<String> rows) {
        this.rows = rows;
        this.next = rows.indexOf("```java") + 1;
    }

    public static void main(String[] args) throws IOException {
        List<String> rows = Files.readAllLines(Path.of("README.md"));
        new ReadmeTest(rows).example();
        tableHasEachCall(rows);
        Due.end();
    }

    private void example() {
        StartSleep x = new StartSleep();
        isNext("StartSleep x = new StartSleep();");
        answers("x.init(3, 10, false);", x.init(3, 10, false));
        answers("x.start();", x.start());
        answers("x.order(0);", x.order(0));
        answers("x.write(0, 5, (byte) 42);", x.write(0, 5, (byte) 42));
        answers("x.block(0);", x.block(0));
        answers("x.request(1, true);", x.request(1, true));
        answers("x.step(500);", x.step(500));
        answers("x.request(1, false);", x.request(1, false));
        answers("x.step(600);", x.step(600));
        answers("x.step(605);", x.step(605));
        answers("x.kept(0, 5);", Due.kept(x, 0, 5));
        answers("x.wake(2, false);", x.wake(2, false));
        answers("x.wake(2, true);", x.wake(2, true));
        answers("x.cut(700);", x.cut(700));
        answers("x.bank(false);", x.bank(false));
        answers("x.start();", x.start());
        answers("x.time(6);", x.time(6));
        isNext("```");
    }

    private void answers(String call, long got) {
        String comment = isNext(call);
        String told = comment.split(":")[0];
        Due.isTrue("README.md's row " + call + " tells the answer " + got + ": " + comment,
                told.equals(Long.toString(got)));
    }

    /** The comment of the next row, which must have this code. */
    private String isNext(String code) {
        String row = next < rows.size() ? rows.get(next) : "";
        next++;
        String[] halves = row.split("//", 2);
        Due.isTrue("README.md's next row is " + code + ": " + row, halves[0].strip().equals(code));
        return halves.length == 2 ? halves[1].strip() : "";
    }

    private static void tableHasEachCall(List<String> rows) {
        for (Method m : StartSleep.class.getDeclaredMethods()) {
            if (Modifier.isPublic(m.getModifiers())) {
                Due.isTrue("README.md's table has " + m.getName(),
                        rows.stream().anyMatch(row -> row.startsWith("| `" + m.getName() + "(")));
            }
        }
    }
}
