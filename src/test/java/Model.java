import java.util.ArrayDeque;
import java.util.ArrayList;
import java.util.Deque;
import java.util.HashMap;
import java.util.List;
import java.util.Map;

/**
 * The document written once more, as plainly as may be and in another way than the class: each
 * region is an own map of words, slots age tick by tick, the frame is a list of single ticks.
 */
final class Model {
    private static final class Fault extends Exception {
        private static final long serialVersionUID = 1;
        private final int kind;

        Fault(int kind) {
            this.kind = kind;
        }
    }

    private static final class Program {
        private int base;
        private int length;
        private int entry;
        private int state = 1;
        private int place;
        private int restarts;
        private int done;
        private int fault;
        private int faults;
        private int[] r = new int[4];
        private final Map<Integer, Integer> words = new HashMap<>();

        int word(int i, int fault) throws Fault {
            if (i < 0 || i >= length) {
                throw new Fault(fault);
            }
            return words.getOrDefault(i, 0);
        }
    }

    private static final class Line {
        private int from;
        private int to;
        private int room;
        private int came;
        private int refused;
        private int age;
        private Integer slot;
        private final Deque<Integer> queue = new ArrayDeque<>();
    }

    private final Map<Integer, Program> programs = new HashMap<>();
    private final Map<Integer, Line> lines = new HashMap<>();
    private final List<int[]> frame = new ArrayList<>();
    private int windows;
    private boolean sealed;
    private int ticks;
    private int yieldedIn = -1;
    private int windowRuns;

    void partition(int p, int base, int length, int entry, int restarts) {
        state(!sealed);
        argument(p >= 0 && p <= 5 && !programs.containsKey(p));
        argument(base >= 0 && length >= 1 && (long) base + length <= 512);
        for (Program other : programs.values()) {
            for (int i = 0; i < other.length; i++) {
                argument(other.base + i < base || other.base + i >= base + length);
            }
        }
        argument(entry >= 0 && entry < length && restarts >= 0 && restarts <= 100);
        Program told = new Program();
        told.base = base;
        told.length = length;
        told.entry = entry;
        told.place = entry;
        told.restarts = restarts;
        programs.put(p, told);
    }

    int window(int p, int n) {
        state(!sealed);
        argument(p == -1 || programs.containsKey(p));
        argument(n >= 1 && n <= 100 && windows < 12);
        for (int t = 0; t < n; t++) {
            frame.add(new int[] {p, windows});
        }
        return ++windows;
    }

    void channel(int c, int from, int to, int room) {
        state(!sealed);
        argument(c >= 0 && c <= 7 && !lines.containsKey(c));
        argument(programs.containsKey(from) && programs.containsKey(to) && from != to);
        argument(room >= 0 && room <= 8);
        Line told = new Line();
        told.from = from;
        told.to = to;
        told.room = room;
        lines.put(c, told);
    }

    int poke(int p, int i, int v) {
        state(!sealed);
        int before = peek(p, i);
        programs.get(p).words.put(i, v);
        return before;
    }

    int peek(int p, int i) {
        argument(programs.containsKey(p));
        if (i < 0 || i >= programs.get(p).length) {
            throw new IndexOutOfBoundsException();
        }
        return programs.get(p).words.getOrDefault(i, 0);
    }

    int seal() {
        state(!sealed && windows > 0);
        sealed = true;
        return frame.size();
    }

    int step(int n) {
        state(sealed);
        argument(n >= 0 && n <= 5000);
        int busy = 0;
        for (int t = 0; t < n; t++) {
            busy += tick();
        }
        return busy;
    }

    int told(int p, int what) {
        argument(p >= 0 && p <= 5 && what >= 0 && what <= 9);
        Program q = programs.get(p);
        if (q == null) {
            return 0;
        }
        int[] all = {q.state, q.place, q.r[0], q.r[1], q.r[2], q.r[3], q.done, q.restarts, q.fault, q.faults};
        return all[what];
    }

    int has(int c, int what) {
        argument(lines.containsKey(c) && what >= 0 && what <= 4);
        Line line = lines.get(c);
        boolean slot = line.room == 0;
        int count = slot ? (line.slot == null ? 0 : 1) : line.queue.size();
        int first = count == 0 ? 0 : slot ? line.slot : line.queue.getFirst();
        int[] all = {count, first, line.age, line.came, line.refused};
        return all[what];
    }

    int queued(int c, int k) {
        argument(lines.containsKey(c));
        List<Integer> words = new ArrayList<>(lines.get(c).queue);
        return k >= 0 && k < words.size() ? words.get(k) : 0;
    }

    int current() {
        return sealed ? frame.get(ticks % frame.size())[0] : -1;
    }

    int ticks() {
        return ticks;
    }

    private int tick() {
        for (Line line : lines.values()) {
            if (line.slot != null && line.age < 1000000) {
                line.age++;
            }
        }
        int[] now = frame.get(ticks % frame.size());
        Program q = programs.get(now[0]);
        int busy = 0;
        if (q != null && q.state == 1 && yieldedIn != windowRuns) {
            busy = 1;
            run(now[0], q);
        }
        ticks++;
        // A frame of one window: its next run is another one, though it is the same window.
        if (ticks % frame.size() == 0 || frame.get(ticks % frame.size())[1] != now[1]) {
            windowRuns++;
        }
        return busy;
    }

    private void run(int p, Program q) {
        int[] registers = q.r.clone();
        int place = q.place;
        try {
            int w = q.word(q.place, 1);
            q.place++;
            perform(p, q, w);
            q.done++;
        } catch (Fault f) {
            q.fault = f.kind;
            q.faults++;
            if (q.restarts > 0) {
                q.restarts--;
                q.r = new int[4];
                q.place = q.entry;
                yieldedIn = windowRuns;
            } else {
                q.state = 3;
                q.r = registers;
                q.place = place;
            }
        }
    }

    private void perform(int p, Program q, int w) throws Fault {
        int op = Math.floorMod(w, 16);
        int a = Math.floorMod(Math.floorDiv(w, 16), 4);
        int b = Math.floorMod(Math.floorDiv(w, 64), 4);
        int i = Math.floorDiv(w, 256);
        int x = q.r[a];
        int y = q.r[b];
        if (op == 0) {
            q.state = 2;
        } else if (op == 1) {
            q.r[a] = i;
        } else if (op == 2) {
            q.r[a] = x + y;
        } else if (op == 3) {
            q.r[a] = x - y;
        } else if (op == 4) {
            q.r[a] = x * y;
        } else if (op == 5) {
            q.r[a] = x ^ y;
        } else if (op == 6) {
            q.r[a] = q.word(y + i, 2);
        } else if (op == 7) {
            q.word(y + i, 2);
            q.words.put(y + i, x);
        } else if (op == 8 && x == 0 || op == 9 && x < 0) {
            q.place += i;
        } else if (op == 10) {
            q.place = x;
        } else if (op == 11) {
            send(p, q, a, b, i);
        } else if (op == 12) {
            take(p, q, a, b, i);
        } else if (op == 13) {
            yieldedIn = windowRuns;
        } else if (op == 14) {
            q.r[a] = q.done;
        } else if (op == 15) {
            throw new Fault(4);
        }
    }

    private void send(int p, Program q, int a, int b, int i) throws Fault {
        Line line = lines.get(i);
        if (line == null || line.from != p) {
            throw new Fault(3);
        }
        if (line.room > 0 && line.queue.size() == line.room) {
            line.refused++;
            q.r[b] = 0;
            return;
        }
        line.came++;
        if (line.room == 0) {
            line.slot = q.r[a];
            line.age = 0;
        } else {
            line.queue.addLast(q.r[a]);
        }
        q.r[b] = 1;
    }

    private void take(int p, Program q, int a, int b, int i) throws Fault {
        Line line = lines.get(i);
        if (line == null || line.to != p) {
            throw new Fault(3);
        }
        if (line.room > 0 && !line.queue.isEmpty()) {
            q.r[a] = line.queue.removeFirst();
            q.r[b] = 1;
        } else if (line.room == 0 && line.slot != null) {
            q.r[a] = line.slot;
            q.r[b] = line.age + 1;
        } else {
            q.r[b] = 0;
        }
    }

    private static void state(boolean holds) {
        if (!holds) {
            throw new IllegalStateException();
        }
    }

    private static void argument(boolean holds) {
        if (!holds) {
            throw new IllegalArgumentException();
        }
    }
}
