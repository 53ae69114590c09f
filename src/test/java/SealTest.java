/** Promise 7: seal. */
final class SealTest {
    public static void main(String[] args) {
        Check check = new Check();
        check.sentence("The kernel goes from now on.", SealTest::goesFromNowOn);
        check.sentence("Answers how many ticks the frame has.", SealTest::answersFrame);
        check.sentence("IllegalStateException: sealed already", SealTest::sealedAlready);
        check.sentence("or there is no window", SealTest::noWindow);
        check.sentence("All that is told before the SEAL; then the kernel goes.", SealTest::toldBefore);
        check.end();
    }

    private static void goesFromNowOn(Check check) {
        PartitionKernel x = new PartitionKernel();
        x.partition(2, 0, 4, 3, 1);
        x.window(2, 2);
        check.due("a step before", Check.thrownBy(k -> k.step(1), x), "IllegalStateException");
        check.due("at hand before", x.current(), PartitionKernel.NONE);
        x.seal();
        check.due("nothing has gone yet", x.ticks(), 0);
        check.toldRow("behind the seal", x, 2, 1, 3, 0, 0, 0, 0, 0, 1, 0, 0);
        check.due("the first window is at hand", x.current(), 2);
        check.due("a step behind", x.step(1), 1);
        check.due("ticks", x.ticks(), 1);
    }

    private static int frame(int... windows) {
        PartitionKernel x = new PartitionKernel();
        x.partition(0, 0, 4, 0, 0);
        for (int w = 0; w < windows.length; w += 2) {
            x.window(windows[w], windows[w + 1]);
        }
        return x.seal();
    }

    private static void answersFrame(Check check) {
        check.due("the shortest frame", frame(0, 1), 1);
        check.due("nobody's frame", frame(-1, 1), 1);
        check.due("a frame of two", frame(0, 30, -1, 12), 42);
        check.due("one partition's windows", frame(0, 30, 0, 30), 60);
        check.due("the longest frame", frame(0, 100, 0, 100, 0, 100, 0, 100, 0, 100, 0, 100,
                0, 100, 0, 100, 0, 100, 0, 100, 0, 100, 0, 100), 1200);
        PartitionKernel x = new PartitionKernel();
        x.window(PartitionKernel.NONE, 9);
        check.due("a frame without any partition", x.seal(), 9);
    }

    private static void sealedAlready(Check check) {
        Check.Call sealed = x -> {
            x.partition(0, 0, 4, 0, 0);
            x.window(0, 3);
            x.seal();
        };
        check.refused("at once", Check.STATE, sealed, x -> x.seal());
        check.refused("behind some ticks", Check.STATE, x -> {
            sealed.on(x);
            x.step(5);
        }, x -> x.seal());
    }

    private static void noWindow(Check check) {
        check.refused("of a new object", Check.STATE, Check::nothing, x -> x.seal());
        Check.Call partitions = x -> {
            x.partition(0, 0, 4, 0, 0);
            x.partition(1, 4, 4, 0, 0);
            x.channel(0, 0, 1, 1);
        };
        check.refused("with partitions and a channel", Check.STATE, partitions, x -> x.seal());
        check.refused("behind a window that was refused", Check.STATE, x -> {
            partitions.on(x);
            Check.thrownBy(k -> k.window(0, 0), x);
        }, x -> x.seal());
        PartitionKernel x = new PartitionKernel();
        Check.thrownBy(k -> k.seal(), x);
        check.due("a window behind a refused seal", x.window(PartitionKernel.NONE, 2), 1);
        check.due("a seal behind a refused one", x.seal(), 2);
    }

    private static void toldBefore(Check check) {
        Check.Call[] telling = {x -> x.partition(1, 8, 8, 0, 0), x -> x.window(0, 1),
            x -> x.channel(0, 0, 2, 1), x -> x.poke(0, 0, 1)};
        Check.Call before = x -> {
            x.partition(0, 0, 8, 0, 0);
            x.partition(2, 16, 8, 0, 0);
            x.window(0, 1);
        };
        Check.Call sealed = x -> {
            before.on(x);
            x.seal();
        };
        for (int n = 0; n < telling.length; n++) {
            check.accepted("telling " + n + " before", before, telling[n]);
            check.refused("telling " + n + " behind", Check.STATE, sealed, telling[n]);
        }
    }
}
