/** Promise 7: seal. */
final class SealTest {
    public static void main(String[] args) {
        Check check = new Check();
        check.due("nobody's frame", frame(-1, 1), 1);
        check.due("a frame of two", frame(0, 30, -1, 12), 42);
        check.due("the longest frame", frame(0, 100, 0, 100, 0, 100, 0, 100, 0, 100, 0, 100,
                0, 100, 0, 100, 0, 100, 0, 100, 0, 100, 0, 100), 1200);
        check.refused("no window", Check.STATE, x -> x.partition(0, 0, 4, 0, 0), x -> x.seal());
        check.refused("sealed already", Check.STATE, x -> {
            x.window(-1, 3);
            x.seal();
        }, x -> x.seal());
        PartitionKernel x = new PartitionKernel();
        x.partition(2, 0, 4, 3, 1);
        Check.thrownBy(k -> k.seal(), x);
        x.window(2, 2);
        check.due("step before", Check.thrownBy(k -> k.step(0), x), "IllegalStateException");
        check.due("a seal behind a refused one", x.seal(), 2);
        check.due("nothing has gone yet", x.ticks(), 0);
        check.due("at its entry", x.told(2, 1), 3);
        check.due("the first window is at hand", x.current(), 2);
        check.due("step behind", x.step(1), 1);
        check.end();
    }

    private static int frame(int... windows) {
        PartitionKernel x = new PartitionKernel();
        x.partition(0, 0, 4, 0, 0);
        for (int w = 0; w < windows.length; w += 2) {
            x.window(windows[w], windows[w + 1]);
        }
        return x.seal();
    }
}
