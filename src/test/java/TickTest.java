/** Terms: what a tick is, and how the frame goes round. */
final class TickTest {
    private static final int NONE = PartitionKernel.NONE;

    public static void main(String[] args) {
        Check check = new Check();
        check.sentence("A TICK: the slots' words are one tick older", TickTest::slotsGrowOlder);
        check.sentence("(up to 1000000)", TickTest::oldest);
        check.sentence("If the window at hand is somebody's", TickTest::somebodys);
        check.sentence("who is ready", TickTest::whoIsReady);
        check.sentence("and has not yielded in it", TickTest::hasNotYielded);
        check.sentence("one instruction of that partition", TickTest::oneOfThatPartition);
        check.sentence("Then the window goes on; behind its last tick the next window is at hand", TickTest::nextWindow);
        check.sentence("(behind the last one the first)", TickTest::behindTheLast);
        check.sentence("THE FRAME: up to 12 WINDOWS, one behind the other", TickTest::longestFrame);
        check.end();
    }

    private static void slotsGrowOlder(Check check) {
        PartitionKernel x = new PartitionKernel();
        x.partition(0, 0, 8, 0, 0);
        x.partition(1, 8, 8, 0, 0);
        x.channel(0, 0, 1, 0);
        x.channel(7, 0, 1, 0);
        x.channel(3, 0, 1, 0);
        Check.put(x, 0, Op.send(0, 1, 0), Op.send(0, 1, 7), Op.YIELD, Op.HALT);
        Check.put(x, 1, Op.take(0, 1, 7), Op.BAD);
        x.window(0, 4);
        x.window(1, 2);
        x.window(NONE, 2);
        x.seal();
        for (int t = 1; t <= 30; t++) {
            x.step(1);
            // Whether the tick runs an instruction, rests, is nobody's or a halted one's.
            check.due("age of 0 behind tick " + t, x.has(0, 2), t - 1);
            check.due("age of 7 behind tick " + t, x.has(7, 2), t < 2 ? 0 : t - 2);
            check.due("age of 3, which has no word, behind tick " + t, x.has(3, 2), 0);
        }
        check.due("older before the instruction: 1 more than 3", x.told(1, 3), 4);
    }

    private static void oldest(Check check) {
        PartitionKernel x = Check.pair(0, new int[] {Op.send(0, 1, 5), Op.HALT},
                new int[] {Op.take(0, 1, 5), Op.ifZero(0, -2)});
        x.step(1);
        for (int n = 0; n < 199; n++) {
            x.step(5000);
        }
        x.step(4999);
        check.due("one tick before", x.has(5, 2), 999999);
        x.step(1);
        check.due("a million ticks", x.has(5, 2), 1000000);
        x.step(1);
        check.due("no older", x.has(5, 2), 1000000);
        x.step(3);
        check.due("1 more than that", x.told(1, 3), 1000001);
        x.step(5000);
        check.due("no older ever", x.has(5, 2), 1000000);
        check.due("its word stays", x.has(5, 0), 1);
        check.due("ticks go on", x.ticks(), 1005005);
    }

    private static void loop(PartitionKernel x, int p) {
        x.partition(p, 8 * p, 8, 0, 0);
        Check.put(x, p, Op.count(0), Op.ifZero(3, -2));
    }

    private static void somebodys(Check check) {
        PartitionKernel x = new PartitionKernel();
        loop(x, 0);
        x.window(NONE, 2);
        x.window(0, 1);
        x.window(NONE, 1);
        x.seal();
        int[] busy = {0, 0, 1, 0};
        for (int t = 0; t < 12; t++) {
            check.due("tick " + t, x.step(1), busy[t % 4]);
        }
        check.due("done", x.told(0, 6), 3);
    }

    private static void whoIsReady(Check check) {
        PartitionKernel x = new PartitionKernel();
        loop(x, 0);
        x.partition(1, 8, 8, 0, 0);
        x.partition(2, 16, 8, 0, 0);
        Check.put(x, 1, Op.HALT, Op.set(0, 1));
        Check.put(x, 2, Op.BAD, Op.set(0, 1));
        x.window(1, 2);
        x.window(2, 2);
        x.window(0, 1);
        x.seal();
        int[] first = {1, 0, 1, 0, 1};
        for (int t = 0; t < 25; t++) {
            check.due("tick " + t, x.step(1), t < 5 ? first[t] : t % 5 == 4 ? 1 : 0);
        }
        check.toldRow("of a halted one", x, 1, 2, 1, 0, 0, 0, 0, 1, 0, 0, 0);
        check.toldRow("of a faulted one", x, 2, 3, 0, 0, 0, 0, 0, 0, 0, 4, 1);
    }

    private static void busyTicks(Check check, String when, PartitionKernel x, int... busy) {
        for (int t = 0; t < busy.length; t++) {
            check.due(when + ", tick " + t, x.step(1), busy[t]);
        }
    }

    private static void hasNotYielded(Check check) {
        PartitionKernel x = new PartitionKernel();
        x.partition(0, 0, 8, 0, 0);
        Check.put(x, 0, Op.count(0), Op.YIELD, Op.ifZero(3, -3));
        x.window(0, 4);
        x.window(0, 2);
        x.window(NONE, 1);
        x.seal();
        busyTicks(check, "yields in the second tick, goes on in its next window", x, 1, 1, 0, 0, 1, 1, 0);
        busyTicks(check, "yields in the first tick", x, 1, 0, 0, 0, 1, 1, 0);
        PartitionKernel last = Check.alone(8, 0, Op.YIELD, Op.YIELD, Op.YIELD, Op.YIELD);
        busyTicks(check, "a yield in a window's last tick", last, 1, 1, 1, 1);
        PartitionKernel one = new PartitionKernel();
        one.partition(0, 0, 8, 0, 0);
        Check.put(one, 0, Op.YIELD, Op.YIELD, Op.set(0, 1));
        one.window(0, 3);
        one.seal();
        busyTicks(check, "a frame of one window", one, 1, 0, 0, 1, 0, 0, 1, 1, 0);
        PartitionKernel other = new PartitionKernel();
        loop(other, 1);
        other.partition(0, 0, 8, 0, 0);
        Check.put(other, 0, Op.YIELD);
        other.window(0, 3);
        other.window(1, 3);
        other.seal();
        busyTicks(check, "a yield is its own alone", other, 1, 0, 0, 1, 1, 1);
        check.due("its time is not another one's", other.told(1, 6), 3);
    }

    private static void oneOfThatPartition(Check check) {
        PartitionKernel x = new PartitionKernel();
        for (int p = 0; p < 6; p++) {
            loop(x, p);
        }
        int[] owners = {5, 0, 4, 1, 3, 2};
        for (int owner : owners) {
            x.window(owner, 1);
        }
        x.seal();
        int[] done = new int[6];
        for (int t = 0; t < 18; t++) {
            check.due("tick " + t, x.step(1), 1);
            done[owners[t % 6]]++;
            for (int p = 0; p < 6; p++) {
                check.due("done by " + p + " behind tick " + t, x.told(p, 6), done[p]);
            }
        }
    }

    private static void nextWindow(Check check) {
        PartitionKernel x = new PartitionKernel();
        for (int p = 0; p < 3; p++) {
            loop(x, p);
        }
        x.window(2, 3);
        x.window(0, 1);
        x.window(1, 2);
        x.window(0, 2);
        x.window(2, 1);
        x.seal();
        int[] owners = {2, 2, 2, 0, 1, 1, 0, 0, 2};
        int[] done = new int[3];
        for (int t = 0; t < 9; t++) {
            check.due("before tick " + t, x.current(), owners[t]);
            x.step(1);
            done[owners[t]]++;
            for (int p = 0; p < 3; p++) {
                check.due("done by " + p + " behind tick " + t, x.told(p, 6), done[p]);
            }
        }
    }

    private static void behindTheLast(Check check) {
        PartitionKernel x = new PartitionKernel();
        loop(x, 0);
        loop(x, 1);
        x.window(0, 2);
        x.window(1, 1);
        x.seal();
        int[] owners = {0, 0, 1};
        for (int t = 0; t < 30; t++) {
            check.due("before tick " + t, x.current(), owners[t % 3]);
            x.step(1);
        }
        check.due("done by 0", x.told(0, 6), 20);
        check.due("done by 1", x.told(1, 6), 10);
        PartitionKernel one = Check.alone(8, 0, Op.count(0), Op.ifZero(3, -2));
        one.step(5000);
        check.due("a frame of one tick", one.current(), 0);
        check.due("its done", one.told(0, 6), 5000);
    }

    private static void longestFrame(Check check) {
        PartitionKernel x = new PartitionKernel();
        loop(x, 0);
        loop(x, 1);
        for (int w = 0; w < 12; w++) {
            x.window(w == 11 ? 1 : w % 2 == 0 ? 0 : NONE, 100);
        }
        check.due("its ticks", x.seal(), 1200);
        check.due("eleven windows", x.step(1100), 600);
        check.due("the twelfth", x.current(), 1);
        check.due("its ticks but one", x.step(99), 99);
        check.due("still the twelfth", x.current(), 1);
        x.step(1);
        check.due("the first again", x.current(), 0);
        check.due("done by 1", x.told(1, 6), 100);
    }
}
