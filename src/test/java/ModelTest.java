import java.util.Random;

/** Long runs of mixed calls, each answer held against the model's; the seeds are always the same. */
final class ModelTest {
    private static final int RUNS = 1500;
    private static final int MOST_CALLS = 512;

    private final Check check;
    private final Random random;
    private final PartitionKernel x = new PartitionKernel();
    private final Model model = new Model();
    private int calls;

    private ModelTest(Check check, int seed) {
        this.check = check;
        this.random = new Random(seed);
    }

    public static void main(String[] args) {
        Check check = new Check();
        for (int seed = 0; seed < RUNS; seed++) {
            new ModelTest(check, seed).run();
        }
        check.end();
    }

    private interface Answer {
        long get();
    }

    private void same(String call, Answer got, Answer want) {
        if (calls < MOST_CALLS) {
            calls++;
            check.due(call, text(got), text(want));
        }
    }

    private static String text(Answer answer) {
        try {
            return Long.toString(answer.get());
        } catch (RuntimeException e) {
            return e.getClass().getSimpleName();
        }
    }

    private int between(int low, int high) {
        return low + random.nextInt(high - low + 1);
    }

    /** Mostly in the range, sometimes just outside, seldom far away. */
    private int around(int low, int high) {
        int dice = random.nextInt(40);
        if (dice == 0) {
            return random.nextInt();
        }
        if (dice == 1) {
            return random.nextBoolean() ? low - 1 : high + 1;
        }
        return between(low, high);
    }

    private void run() {
        int told = between(2, 6);
        int width = between(6, 512 / told);
        for (int p = 0; p < told; p++) {
            partition(p, p * width, width);
        }
        for (int n = between(2, 12); n > 0; n--) {
            channel(around(0, 7), around(0, told - 1), around(0, told - 1), between(0, 2) == 0 ? 0 : around(0, 8));
        }
        for (int n = between(1, 9); n > 0; n--) {
            window(around(-1, told - 1), between(0, 3) == 0 ? around(1, 100) : between(1, 6));
        }
        for (int p = 0; p < told; p++) {
            for (int i = 0; i < Math.min(width, 12); i++) {
                poke(p, i, instruction());
            }
        }
        same("seal", () -> x.seal(), () -> model.seal());
        while (calls < MOST_CALLS) {
            anyCall(told, width);
        }
    }

    private int instruction() {
        int dice = random.nextInt(60);
        int op = dice < 12 ? 11 + dice % 2 : dice < 15 ? 13 : dice == 15 ? 15 : dice == 16 ? 0 : between(1, 14);
        int i = op == 11 || op == 12 ? between(-1, 8) : op == 8 || op == 9 ? between(-7, 3) : between(-2, 9);
        if (random.nextInt(200) == 0) {
            return random.nextInt();
        }
        return Op.word(op, between(0, 3), between(0, 3), i);
    }

    private void anyCall(int told, int width) {
        int p = around(0, 5);
        int c = around(0, 7);
        int k = around(0, 8);
        int what = around(0, 9);
        int i = around(0, width);
        int n = random.nextInt(20) == 0 ? around(0, 5000) : random.nextInt(4) == 0 ? around(0, 60) : between(1, 3);
        switch (random.nextInt(24)) {
            case 0: partition(p, around(0, 511), around(1, 20)); break;
            case 1: window(p, between(1, 5)); break;
            case 2: channel(c, p, around(0, told), around(0, 8)); break;
            case 3: poke(p, i, instruction()); break;
            case 4: same("seal", () -> x.seal(), () -> model.seal()); break;
            case 5: case 6: same("peek(" + p + ", " + i + ")", () -> x.peek(p, i), () -> model.peek(p, i)); break;
            case 7: case 8: same("current", () -> x.current(), () -> model.current()); break;
            case 9: same("ticks", () -> x.ticks(), () -> model.ticks()); break;
            case 10: case 11: case 12: case 13:
                same("told(" + p + ", " + what + ")", () -> x.told(p, what), () -> model.told(p, what)); break;
            case 14: case 15: case 16:
                same("has(" + c + ", " + what / 2 + ")", () -> x.has(c, what / 2), () -> model.has(c, what / 2)); break;
            case 17: same("queued(" + c + ", " + k + ")", () -> x.queued(c, k), () -> model.queued(c, k)); break;
            default: same("step(" + n + ")", () -> x.step(n), () -> model.step(n)); break;
        }
    }

    private void partition(int p, int base, int length) {
        int entry = around(0, Math.max(0, Math.min(length - 1, 8)));
        int restarts = random.nextInt(3) == 0 ? around(0, 100) : between(0, 3);
        same("partition", () -> {
            x.partition(p, base, length, entry, restarts);
            return 0;
        }, () -> {
            model.partition(p, base, length, entry, restarts);
            return 0;
        });
    }

    private void window(int p, int n) {
        same("window(" + p + ", " + n + ")", () -> x.window(p, n), () -> model.window(p, n));
    }

    private void channel(int c, int from, int to, int room) {
        same("channel", () -> {
            x.channel(c, from, to, room);
            return 0;
        }, () -> {
            model.channel(c, from, to, room);
            return 0;
        });
    }

    private void poke(int p, int i, int v) {
        same("poke(" + p + ", " + i + ", " + v + ")", () -> x.poke(p, i, v), () -> model.poke(p, i, v));
    }
}
