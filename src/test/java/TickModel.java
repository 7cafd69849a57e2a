import java.util.ArrayList;
import java.util.Comparator;
import java.util.List;
import java.util.Map;
import java.util.TreeMap;
import java.util.TreeSet;

/** The document told once more, in the slowest way: every tick is lived through, nothing is reckoned ahead. */
final class TickModel {
    private record Part(int number, int order, boolean fails) { }

    private static final class Copy {
        long version = 0;
        byte[] octets = new byte[16];
    }

    private static final class Block {
        byte[] working = new byte[16];
        final Copy first = new Copy();
        final Copy second = new Copy();
        boolean changed = false;

        Copy kept() {
            return first.version >= second.version ? first : second;
        }

        Copy other() {
            return kept() == first ? second : first;
        }
    }

    private final List<Block> blocks = new ArrayList<>();
    private final TreeSet<Integer> requesting = new TreeSet<>();
    private final Map<Integer, Part> parts = new TreeMap<>();
    private final List<Integer> things = new ArrayList<>();
    private final long[] told = new long[7];
    private int mode = 0;
    private int next = 0;
    private int quietTicks = 0;
    private int checkedTicks = 0;
    private int savedTicks = 0;
    private Copy inWriting = null;

    TickModel() {
        for (int n = 0; n < 8; n++) {
            blocks.add(new Block());
        }
    }

    int user() {
        return requesting.size();
    }

    int request(int user, boolean on) {
        if (user < 1 || user > 16) {
            return -1;
        }
        if (mode == 0 || mode == 3 || mode == 5) {
            return -3;
        }
        if (on) {
            requesting.add(user);
        } else {
            requesting.remove(user);
        }
        if (!requesting.isEmpty()) {
            quietTicks = 0;
        }
        return requesting.size();
    }

    int wake(int source, boolean valid) {
        if (source < 1 || source > 8) {
            return -1;
        }
        if ((mode == 3 || mode == 4) && valid) {
            toRunning();
        } else if (mode == 3) {
            mode = 4;
            checkedTicks = 0;
            told[3]++;
        }
        return mode;
    }

    int step(long t) {
        if (outside(t)) {
            return -2;
        }
        liveUntil(t);
        return mode;
    }

    int init(int part, int order, boolean fails) {
        if (part < 1 || part > 20) {
            return -1;
        }
        if (order < 0 || order > 100) {
            return -2;
        }
        if (mode != 0) {
            return -3;
        }
        parts.put(part, new Part(part, order, fails));
        return parts.size();
    }

    int block(int n) {
        return n < 0 || n > 7 ? -1 : blocks.get(n).changed ? 1 : 0;
    }

    int write(int block, int i, byte b) {
        if (block < 0 || block > 7) {
            return -1;
        }
        if (i < 0 || i > 15) {
            return -2;
        }
        if (mode != 1 && mode != 5) {
            return -3;
        }
        blocks.get(block).working[i] = b;
        blocks.get(block).changed = true;
        return 1;
    }

    int cut(long t) {
        if (outside(t)) {
            return -2;
        }
        if (mode == 0) {
            return -3;
        }
        liveUntil(t);
        mode = 0;
        inWriting = null;
        told[4]++;
        return (int) blocks.stream().filter(b -> b.changed).count();
    }

    int start() {
        if (mode != 0) {
            return -3;
        }
        told[1]++;
        told[5] = told[0];
        told[6] = next;
        requesting.clear();
        for (Block b : blocks) {
            b.working = b.kept().octets.clone();
            b.changed = false;
        }
        toRunning();
        beginParts();
        return mode;
    }

    long kept(int block, int i) {
        return block < 0 || block > 7 || i < 0 || i > 15 ? Due.THROWN : blocks.get(block).kept().octets[i];
    }

    int bank(boolean whole) {
        next = whole ? next : next == 0 ? 1 : 0;
        return next;
    }

    long time(int what) {
        return what < 0 || what > 6 ? -2 : told[what];
    }

    int order(int i) {
        return i < 0 || i >= things.size() ? 0 : things.get(i);
    }

    private void beginParts() {
        things.clear();
        List<Part> row = new ArrayList<>(parts.values());
        row.sort(Comparator.comparingInt(Part::order).thenComparingInt(Part::number));
        List<Integer> ends = new ArrayList<>();
        for (Part p : row) {
            things.add(p.number());
            if (p.fails()) {
                mode = 5;
                things.addAll(ends);
                return;
            }
            ends.add(0, -p.number());
        }
    }

    private boolean outside(long t) {
        return t < told[0] || t > told[0] + 100000;
    }

    private void liveUntil(long t) {
        while (told[0] < t) {
            told[0]++;
            switch (mode) {
                case 1 -> tickOfRunning();
                case 2 -> tickOfSaving();
                case 4 -> tickOfChecking();
                default -> { }
            }
        }
    }

    private void tickOfRunning() {
        quietTicks = requesting.isEmpty() ? quietTicks + 1 : 0;
        if (quietTicks == 100) {
            saveOrSleep();
        }
    }

    private void tickOfSaving() {
        savedTicks++;
        if (savedTicks < 5) {
            return;
        }
        Block b = blocks.stream().filter(each -> each.changed).findFirst().orElseThrow();
        inWriting.version = Math.max(b.first.version, b.second.version) + 1;
        inWriting.octets = b.working.clone();
        b.changed = false;
        if (requesting.isEmpty()) {
            saveOrSleep();
        } else {
            toRunning();
        }
    }

    private void tickOfChecking() {
        checkedTicks++;
        if (checkedTicks == 20) {
            toSleep();
        }
    }

    private void saveOrSleep() {
        Block b = blocks.stream().filter(each -> each.changed).findFirst().orElse(null);
        if (b == null) {
            toSleep();
            return;
        }
        mode = 2;
        savedTicks = 0;
        inWriting = b.other();
        inWriting.version = 0;
        // Other octets than before: a copy that is torn must never be seen.
        inWriting.octets = new byte[] {9, 9, 9, 9, 9, 9, 9, 9, 9, 9, 9, 9, 9, 9, 9, 9};
    }

    private void toRunning() {
        mode = 1;
        quietTicks = 0;
    }

    private void toSleep() {
        mode = 3;
        told[2]++;
    }
}
