/** Promise 3: window. */
final class WindowTest {
    public static void main(String[] args) {
        Check check = new Check();
        answersHowMany(check);
        wrongInputs(check);
        twelveAtMost(check);
        refusedWhenSealed(check);
        check.end();
    }

    private static void one(PartitionKernel x) {
        x.partition(1, 0, 8, 0, 0);
        Check.put(x, 1, Check.word(2, 0, 0, 0), Check.word(8, 0, 0, -2));
        x.window(1, 2);
    }

    private static void answersHowMany(Check check) {
        PartitionKernel x = new PartitionKernel();
        x.partition(1, 0, 8, 0, 0);
        check.due("the first", x.window(1, 1), 1);
        check.due("nobody's", x.window(PartitionKernel.NONE, 100), 2);
        check.due("the same partition's again", x.window(1, 100), 3);
        check.due("the frame", x.seal(), 201);
    }

    private static void wrongInputs(Check check) {
        check.refused("not told", Check.ARGUMENT, WindowTest::one, x -> x.window(0, 1));
        check.refused("number 6", Check.ARGUMENT, WindowTest::one, x -> x.window(6, 1));
        check.refused("number -2", Check.ARGUMENT, WindowTest::one, x -> x.window(-2, 1));
        check.refused("ticks 0", Check.ARGUMENT, WindowTest::one, x -> x.window(1, 0));
        check.refused("ticks 101", Check.ARGUMENT, WindowTest::one, x -> x.window(1, 101));
        check.refused("nobody, ticks 0", Check.ARGUMENT, WindowTest::one, x -> x.window(-1, 0));
        check.refused("nobody, ticks -1", Check.ARGUMENT, WindowTest::one, x -> x.window(-1, -1));
        check.refused("extreme number", Check.ARGUMENT, WindowTest::one, x -> x.window(Integer.MAX_VALUE, 1));
        PartitionKernel x = new PartitionKernel();
        one(x);
        Check.thrownBy(k -> k.window(1, 0), x);
        check.due("behind a refused one", x.window(1, 5), 2);
        check.due("the frame behind a refused one", x.seal(), 7);
    }

    private static void twelveAtMost(Check check) {
        Check.Call twelve = x -> {
            x.partition(1, 0, 8, 0, 0);
            for (int w = 1; w <= 12; w++) {
                check.due("window " + w, x.window(1, w), w);
            }
        };
        check.refused("a thirteenth", Check.ARGUMENT, twelve, x -> x.window(1, 1));
        check.refused("a thirteenth, nobody's", Check.ARGUMENT, twelve, x -> x.window(-1, 1));
        PartitionKernel x = new PartitionKernel();
        twelve.on(x);
        check.due("the frame of twelve", x.seal(), 78);
    }

    private static void refusedWhenSealed(Check check) {
        Check.Call sealed = x -> {
            one(x);
            x.seal();
        };
        check.refused("sealed", Check.STATE, sealed, x -> x.window(1, 1));
        check.refused("sealed and wrong", Check.STATE, sealed, x -> x.window(9, 0));
    }
}
