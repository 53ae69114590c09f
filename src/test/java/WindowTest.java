/** Promise 3: window. */
final class WindowTest {
    private static final int NONE = PartitionKernel.NONE;

    public static void main(String[] args) {
        Check check = new Check();
        check.sentence("A window more of the frame: a partition, or NONE for nobody, for so many ticks.",
                WindowTest::oneMore);
        check.sentence("Answers how many there are.", WindowTest::answersHowMany);
        check.sentence("IllegalStateException: sealed.", WindowTest::whenSealed);
        check.sentence("the partition is not told", WindowTest::notTold);
        check.sentence("ticks is not 1 to 100", WindowTest::ticksOutOfRange);
        check.sentence("or there are 12", WindowTest::twelveAtMost);
        check.end();
    }

    private static void one(PartitionKernel x) {
        x.partition(1, 0, 8, 0, 0);
        Check.put(x, 1, Op.count(0), Op.ifZero(3, -2));
        x.window(1, 2);
    }

    private static void oneMore(Check check) {
        PartitionKernel x = new PartitionKernel();
        one(x);
        x.window(NONE, 1);
        x.window(1, 1);
        x.window(1, 3);
        x.seal();
        int[] owners = {1, 1, NONE, 1, 1, 1, 1};
        for (int t = 0; t < 14; t++) {
            int owner = owners[t % 7];
            check.due("current() before tick " + t, x.current(), owner);
            check.due("step(1) of tick " + t, x.step(1), owner == NONE ? 0 : 1);
        }
    }

    private static void answersHowMany(Check check) {
        PartitionKernel x = new PartitionKernel();
        x.partition(1, 0, 8, 0, 0);
        check.due("the first", x.window(1, 1), 1);
        check.due("nobody's", x.window(NONE, 100), 2);
        check.due("the same partition's again", x.window(1, 100), 3);
        check.due("a refused one", Check.thrownBy(k -> k.window(1, 0), x), "IllegalArgumentException");
        check.due("behind a refused one", x.window(1, 5), 4);
        check.due("the frame", x.seal(), 206);
    }

    private static void whenSealed(Check check) {
        Check.Call sealed = x -> {
            one(x);
            x.seal();
        };
        check.refused("sealed", Check.STATE, sealed, x -> x.window(1, 1));
        check.refused("sealed, nobody's", Check.STATE, sealed, x -> x.window(NONE, 1));
        check.refused("sealed, not told", Check.STATE, sealed, x -> x.window(0, 1));
        check.refused("sealed, no such number", Check.STATE, sealed, x -> x.window(6, 1));
        check.refused("sealed, ticks 0", Check.STATE, sealed, x -> x.window(1, 0));
        check.refused("sealed, a thirteenth", Check.STATE, x -> {
            twelve(x);
            x.seal();
        }, x -> x.window(1, 1));
    }

    private static void notTold(Check check) {
        for (int p : new int[] {0, 2, 5, 6, -2, Check.LOWEST, Check.HIGHEST}) {
            check.refused("window(" + p + ", 1)", Check.ARGUMENT, WindowTest::one, x -> x.window(p, 1));
        }
        check.accepted("nobody's, when none is told", Check::nothing, x -> x.window(NONE, 1));
        check.accepted("one that is told", WindowTest::one, x -> x.window(1, 1));
    }

    private static void ticksOutOfRange(Check check) {
        for (int n : new int[] {0, -1, 101, Check.LOWEST, Check.HIGHEST}) {
            check.refused("window(1, " + n + ")", Check.ARGUMENT, WindowTest::one, x -> x.window(1, n));
            check.refused("window(NONE, " + n + ")", Check.ARGUMENT, WindowTest::one, x -> x.window(NONE, n));
        }
        for (int n : new int[] {1, 100}) {
            PartitionKernel x = new PartitionKernel();
            one(x);
            x.window(NONE, n);
            check.due("the frame", x.seal(), 2 + n);
            x.step(1 + n);
            check.due("in its last tick", x.current(), NONE);
            x.step(1);
            check.due("behind its last tick", x.current(), 1);
        }
    }

    private static void twelve(PartitionKernel x) {
        x.partition(1, 0, 8, 0, 0);
        for (int w = 1; w <= 12; w++) {
            x.window(w % 2 == 0 ? NONE : 1, w);
        }
    }

    private static void twelveAtMost(Check check) {
        PartitionKernel x = new PartitionKernel();
        x.partition(1, 0, 8, 0, 0);
        for (int w = 1; w <= 12; w++) {
            check.due("window " + w, x.window(1, w), w);
        }
        check.due("the frame of twelve", x.seal(), 78);
        check.refused("a thirteenth", Check.ARGUMENT, WindowTest::twelve, k -> k.window(1, 1));
        check.refused("a thirteenth, nobody's", Check.ARGUMENT, WindowTest::twelve, k -> k.window(NONE, 1));
    }
}
