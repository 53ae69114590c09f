/** Promise 8: step, and what a tick is; the instructions and faults have tests of their own. */
final class StepTest {
    private static final int COUNT_UP = Check.word(14, 0, 0, 0);
    private static final int BACK_BY_2 = Check.word(8, 3, 0, -2);
    private static final int YIELD = Check.word(13, 0, 0, 0);

    public static void main(String[] args) {
        Check check = new Check();
        wrongInputs(check);
        busyTicks(check);
        windowsGoRound(check);
        yielding(check);
        manyTicksAreSingleOnes(check);
        check.end();
    }

    private static void unsealed(PartitionKernel x) {
        x.partition(0, 0, 8, 0, 0);
        Check.put(x, 0, COUNT_UP, BACK_BY_2);
        x.window(0, 2);
        x.window(PartitionKernel.NONE, 3);
    }

    private static void sealed(PartitionKernel x) {
        unsealed(x);
        x.seal();
        x.step(1);
    }

    private static void wrongInputs(Check check) {
        check.refused("not sealed", Check.STATE, StepTest::unsealed, x -> x.step(1));
        check.refused("not sealed, n 0", Check.STATE, StepTest::unsealed, x -> x.step(0));
        check.refused("not sealed and wrong", Check.STATE, StepTest::unsealed, x -> x.step(-1));
        check.refused("n -1", Check.ARGUMENT, StepTest::sealed, x -> x.step(-1));
        check.refused("n 5001", Check.ARGUMENT, StepTest::sealed, x -> x.step(5001));
        check.refused("the highest n", Check.ARGUMENT, StepTest::sealed, x -> x.step(Integer.MAX_VALUE));
        check.refused("the lowest n", Check.ARGUMENT, StepTest::sealed, x -> x.step(Integer.MIN_VALUE));
        check.accepted("n 5000", StepTest::sealed, x -> x.step(5000));
        PartitionKernel x = new PartitionKernel();
        sealed(x);
        String before = Check.picture(x);
        check.due("n 0", x.step(0), 0);
        check.due("n 0 changes nothing", Check.picture(x), before);
    }

    private static void busyTicks(Check check) {
        PartitionKernel x = new PartitionKernel();
        unsealed(x);
        x.seal();
        check.due("its window", x.step(2), 2);
        check.due("nobody's window", x.step(3), 0);
        check.due("the frame again", x.step(5), 2);
        check.due("a thousand frames", x.step(5000), 2000);
        check.due("instructions", x.told(0, 6), 2004);
        PartitionKernel halting = Check.alone(4, 0, 0);
        check.due("the halt, and nothing behind it", halting.step(10), 1);
        PartitionKernel faulting = Check.alone(4, 2, 15);
        check.due("faults count, too", faulting.step(10), 3);
        check.due("faulted ones are not done", faulting.told(0, 6), 0);
    }

    private static void windowsGoRound(Check check) {
        PartitionKernel x = new PartitionKernel();
        for (int p = 0; p < 3; p++) {
            x.partition(p, p * 10, 10, 0, 0);
            Check.put(x, p, COUNT_UP, BACK_BY_2);
        }
        x.window(2, 3);
        x.window(0, 1);
        x.window(1, 2);
        x.window(0, 2);
        x.seal();
        int[] owners = {2, 2, 2, 0, 1, 1, 0, 0};
        int[] done = new int[3];
        for (int t = 0; t < 40; t++) {
            int owner = owners[t % 8];
            check.due("tick " + t, x.step(1), 1);
            done[owner]++;
            for (int p = 0; p < 3; p++) {
                check.due("done by " + p + " behind tick " + t, x.told(p, 6), done[p]);
            }
        }
    }

    private static void yielding(Check check) {
        PartitionKernel x = new PartitionKernel();
        x.partition(0, 0, 8, 0, 0);
        Check.put(x, 0, COUNT_UP, YIELD, Check.word(8, 3, 0, -3));
        x.window(0, 4);
        x.window(0, 2);
        x.window(PartitionKernel.NONE, 1);
        x.seal();
        // COUNT_UP, YIELD, rest idle; jump and COUNT_UP in the second window of the same partition.
        int[] busy = {1, 1, 0, 0, 1, 1, 0};
        for (int t = 0; t < 7; t++) {
            check.due("frame 1, tick " + t, x.step(1), busy[t]);
        }
        // YIELD at once; the yield that stands on no last tick does not reach the next window.
        int[] later = {1, 0, 0, 0, 1, 1, 0};
        for (int t = 0; t < 7; t++) {
            check.due("frame 2, tick " + t, x.step(1), later[t]);
        }
        PartitionKernel short1 = Check.alone(8, 0, YIELD, YIELD, YIELD, YIELD);
        check.due("a yield in a window's last tick", short1.step(4), 4);
        PartitionKernel other = new PartitionKernel();
        other.partition(0, 0, 8, 0, 0);
        other.partition(1, 8, 8, 0, 0);
        Check.put(other, 0, YIELD);
        Check.put(other, 1, COUNT_UP, BACK_BY_2);
        other.window(0, 3);
        other.window(1, 3);
        other.seal();
        check.due("a yield stays its own", other.step(6), 4);
        check.due("its time is not another one's", other.told(1, 6), 3);
    }

    private static void manyTicksAreSingleOnes(Check check) {
        PartitionKernel x = new PartitionKernel();
        PartitionKernel y = new PartitionKernel();
        sealed(x);
        sealed(y);
        int busy = 0;
        for (int t = 0; t < 123; t++) {
            busy += x.step(1);
        }
        check.due("123 at once", y.step(123), busy);
        check.due("what is seen then", Check.picture(y), Check.picture(x));
    }
}
