/** Promise 10: has. */
final class HasTest {
    public static void main(String[] args) {
        Check check = new Check();
        queue(check);
        slot(check);
        oldest(check);
        wrongInputs(check);
        check.end();
    }

    private static void row(Check check, PartitionKernel x, int c, int... want) {
        for (int what = 0; what < want.length; what++) {
            check.due("has(" + c + ", " + what + ") at " + x.ticks(), x.has(c, what), want[what]);
        }
    }

    private static PartitionKernel sender(int room, int... program) {
        PartitionKernel x = new PartitionKernel();
        x.partition(0, 0, 16, 0, 0);
        x.partition(1, 16, 16, 0, 0);
        x.channel(6, 0, 1, room);
        Check.put(x, 0, program);
        Check.put(x, 1, Check.word(12, 0, 1, 6), 0);
        x.window(0, 8);
        x.window(1, 2);
        x.seal();
        return x;
    }

    private static void queue(Check check) {
        int send = Check.word(11, 0, 1, 6);
        PartitionKernel x = sender(2, Check.word(1, 0, 0, 70), send, Check.word(1, 0, 0, 71), send, send, send);
        row(check, x, 6, 0, 0, 0, 0, 0);
        x.step(2);
        row(check, x, 6, 1, 70, 0, 1, 0);
        x.step(2);
        row(check, x, 6, 2, 70, 0, 2, 0);
        x.step(2);
        row(check, x, 6, 2, 70, 0, 2, 2);
        x.step(3);
        row(check, x, 6, 1, 71, 0, 2, 2);
    }

    private static void slot(Check check) {
        int send = Check.word(11, 0, 1, 6);
        PartitionKernel x = sender(0, Check.word(1, 0, 0, 80), send, Check.word(1, 0, 0, 81), Check.word(1, 2, 0, 0), send, 0);
        x.step(1);
        row(check, x, 6, 0, 0, 0, 0, 0);
        x.step(1);
        row(check, x, 6, 1, 80, 0, 1, 0);
        x.step(2);
        row(check, x, 6, 1, 80, 2, 1, 0);
        x.step(1);
        row(check, x, 6, 1, 81, 0, 2, 0);
        x.step(4);
        row(check, x, 6, 1, 81, 4, 2, 0);
        check.due("the age that was taken, and 1", x.told(1, 3), 5);
        x.step(0);
        row(check, x, 6, 1, 81, 4, 2, 0);
    }

    private static void oldest(Check check) {
        PartitionKernel x = new PartitionKernel();
        x.partition(0, 0, 4, 0, 0);
        x.partition(1, 4, 4, 0, 0);
        x.channel(0, 0, 1, 0);
        x.channel(1, 1, 0, 0);
        Check.put(x, 0, Check.word(11, 0, 1, 0), 0);
        Check.put(x, 1, Check.word(12, 0, 1, 0), Check.word(8, 0, 0, -2));
        x.window(0, 1);
        x.window(1, 1);
        x.seal();
        x.step(1);
        for (int n = 0; n < 199; n++) {
            x.step(5000);
        }
        x.step(4999);
        check.due("one tick before", x.has(0, 2), 999999);
        x.step(1);
        check.due("a million ticks", x.has(0, 2), 1000000);
        x.step(3);
        check.due("no older", x.has(0, 2), 1000000);
        check.due("1 more than that", x.told(1, 3), 1000001);
        x.step(5000);
        check.due("no older ever", x.has(0, 2), 1000000);
        check.due("ticks go on", x.ticks(), 1005004);
        check.due("a slot without a word has no age", x.has(1, 2), 0);
    }

    private static void wrongInputs(Check check) {
        Check.Call before = x -> {
            x.partition(0, 0, 8, 0, 0);
            x.partition(1, 8, 8, 0, 0);
            x.channel(0, 0, 1, 2);
        };
        check.refused("not told", Check.ARGUMENT, before, x -> x.has(1, 0));
        check.refused("number -1", Check.ARGUMENT, before, x -> x.has(-1, 0));
        check.refused("number 8", Check.ARGUMENT, before, x -> x.has(8, 0));
        check.refused("what -1", Check.ARGUMENT, before, x -> x.has(0, -1));
        check.refused("what 5", Check.ARGUMENT, before, x -> x.has(0, 5));
        check.refused("the highest", Check.ARGUMENT, before, x -> x.has(Integer.MAX_VALUE, 0));
        check.refused("the lowest", Check.ARGUMENT, before, x -> x.has(0, Integer.MIN_VALUE));
    }
}
