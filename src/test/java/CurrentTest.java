/** Promise 12: current. */
final class CurrentTest {
    private static final int NONE = PartitionKernel.NONE;

    public static void main(String[] args) {
        Check check = new Check();
        check.sentence("The partition whose window is at hand", CurrentTest::atHand);
        check.sentence("NONE for nobody", CurrentTest::nobody);
        check.sentence("or without seal", CurrentTest::withoutSeal);
        check.end();
    }

    private static void told(PartitionKernel x) {
        x.partition(0, 0, 4, 0, 0);
        x.partition(5, 4, 4, 0, 0);
        Check.put(x, 5, Op.BAD);
        x.window(5, 2);
        x.window(0, 1);
        x.window(5, 1);
    }

    private static void atHand(Check check) {
        PartitionKernel x = new PartitionKernel();
        told(x);
        x.seal();
        // Partition 0 halts and 5 is faulted at once: their windows stay theirs.
        int[] owners = {5, 5, 0, 5};
        for (int t = 0; t < 23; t++) {
            check.due("before tick " + t, x.current(), owners[t % 4]);
            x.step(1);
        }
        x.step(5000);
        check.due("behind many frames", x.current(), owners[5023 % 4]);
        x.step(0);
        check.due("behind no tick", x.current(), owners[5023 % 4]);
        Check.thrownBy(k -> k.step(5001), x);
        check.due("behind a refused step", x.current(), owners[5023 % 4]);
        PartitionKernel yielding = new PartitionKernel();
        yielding.partition(3, 0, 4, 0, 0);
        yielding.poke(3, 0, Op.YIELD);
        yielding.window(3, 2);
        yielding.seal();
        yielding.step(1);
        check.due("one that has yielded", yielding.current(), 3);
    }

    private static void nobody(Check check) {
        PartitionKernel x = new PartitionKernel();
        x.window(NONE, 3);
        x.seal();
        check.due("nobody's frame", x.current(), NONE);
        x.step(4);
        check.due("nobody's frame again", x.current(), NONE);
        PartitionKernel mixed = new PartitionKernel();
        mixed.partition(0, 0, 4, 0, 0);
        mixed.window(0, 1);
        mixed.window(NONE, 2);
        mixed.seal();
        int[] owners = {0, NONE, NONE};
        for (int t = 0; t < 9; t++) {
            check.due("before tick " + t, mixed.current(), owners[t % 3]);
            mixed.step(1);
        }
    }

    private static void withoutSeal(Check check) {
        PartitionKernel x = new PartitionKernel();
        check.due("of a new object", x.current(), NONE);
        told(x);
        check.due("with windows", x.current(), NONE);
        Check.thrownBy(k -> k.step(1), x);
        check.due("behind a refused step", x.current(), NONE);
        PartitionKernel empty = new PartitionKernel();
        Check.thrownBy(k -> k.seal(), empty);
        check.due("behind a refused seal", empty.current(), NONE);
        x.seal();
        check.due("with seal", x.current(), 5);
    }
}
