/** Promise 8: step; what a tick, an instruction and a fault are have tests of their own. */
final class StepTest {
    public static void main(String[] args) {
        Check check = new Check();
        check.sentence("So many ticks.", StepTest::soManyTicks);
        check.sentence("Answers in how many an instruction was done", StepTest::answersBusyOnes);
        check.sentence("(one that faulted, too)", StepTest::faultedOnesToo);
        check.sentence("IllegalStateException: not sealed.", StepTest::notSealed);
        check.sentence("IllegalArgumentException: n is not 0 to 5000.", StepTest::ticksOutOfRange);
        check.end();
    }

    private static void unsealed(PartitionKernel x) {
        x.partition(0, 0, 8, 0, 0);
        Check.put(x, 0, Op.count(0), Op.ifZero(3, -2));
        x.window(0, 2);
        x.window(PartitionKernel.NONE, 3);
    }

    private static void sealed(PartitionKernel x) {
        unsealed(x);
        x.seal();
        x.step(1);
    }

    private static PartitionKernel going() {
        PartitionKernel x = new PartitionKernel();
        unsealed(x);
        x.seal();
        return x;
    }

    private static void soManyTicks(Check check) {
        for (int n : new int[] {0, 1, 2, 5, 123, 5000}) {
            PartitionKernel x = going();
            x.step(n);
            check.due("ticks behind step(" + n + ")", x.ticks(), n);
        }
        PartitionKernel single = going();
        PartitionKernel many = going();
        int busy = 0;
        for (int t = 0; t < 123; t++) {
            busy += single.step(1);
        }
        check.due("123 at once", many.step(123), busy);
        check.due("what is seen then", Check.picture(many), Check.picture(single));
        String before = Check.picture(many);
        check.due("no tick at all", many.step(0), 0);
        check.due("what is seen behind none", Check.picture(many), before);
    }

    private static void answersBusyOnes(Check check) {
        PartitionKernel x = going();
        check.due("its window", x.step(2), 2);
        check.due("nobody's window", x.step(3), 0);
        check.due("the frame again", x.step(5), 2);
        check.due("a thousand frames", x.step(5000), 2000);
        check.due("instructions", x.told(0, 6), 2004);
        PartitionKernel whole = Check.alone(8, 0, Op.count(0), Op.ifZero(3, -2));
        check.due("every tick", whole.step(5000), 5000);
        PartitionKernel halting = Check.alone(4, 0, Op.HALT);
        check.due("the halt, and nothing behind it", halting.step(10), 1);
        check.due("nothing ever", halting.step(5000), 0);
        PartitionKernel nobody = new PartitionKernel();
        nobody.window(PartitionKernel.NONE, 1);
        nobody.seal();
        check.due("nobody's frame", nobody.step(5000), 0);
    }

    private static void faultedOnesToo(Check check) {
        PartitionKernel x = Check.alone(4, 2, Op.BAD);
        check.due("three faults", x.step(10), 3);
        check.due("faulted ones are not done", x.told(0, 6), 0);
        PartitionKernel outside = Check.alone(1, 0, Op.set(0, 1));
        check.due("one is done, one has no word", outside.step(10), 2);
        check.due("its done", outside.told(0, 6), 1);
    }

    private static void notSealed(Check check) {
        for (int n : new int[] {0, 1, 5000, -1, 5001, Check.LOWEST, Check.HIGHEST}) {
            check.refused("step(" + n + ")", Check.STATE, StepTest::unsealed, x -> x.step(n));
            check.refused("step(" + n + ") without a window", Check.STATE, Check::nothing, x -> x.step(n));
        }
    }

    private static void ticksOutOfRange(Check check) {
        for (int n : new int[] {-1, 5001, Check.LOWEST, Check.HIGHEST}) {
            check.refused("step(" + n + ")", Check.ARGUMENT, StepTest::sealed, x -> x.step(n));
        }
        check.accepted("step(0)", StepTest::sealed, x -> x.step(0));
        check.accepted("step(5000)", StepTest::sealed, x -> x.step(5000));
    }
}
