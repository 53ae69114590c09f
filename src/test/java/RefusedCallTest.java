/** Terms: which exception comes, and that a call that throws changes nothing, in full kernels. */
final class RefusedCallTest {
    private static final Check.Call[] WRONG_BEFORE = {
        x -> x.partition(0, 400, 8, 0, 0), x -> x.partition(6, 400, 8, 0, 0), x -> x.partition(5, 505, 8, 0, 0),
        x -> x.partition(5, 0, 8, 0, 0), x -> x.partition(5, 400, 8, 8, 0), x -> x.partition(5, 400, 8, 0, 101),
        x -> x.window(5, 1), x -> x.window(0, 0), x -> x.window(0, 101),
        x -> x.channel(0, 0, 1, 1), x -> x.channel(8, 0, 1, 1), x -> x.channel(7, 0, 5, 1),
        x -> x.channel(7, 5, 0, 1), x -> x.channel(7, 0, 0, 1), x -> x.channel(7, 0, 1, 9),
        x -> x.poke(5, 0, 9), x -> x.peek(5, 0),
    };
    private static final Check.Call[] WRONG_EVER = {
        x -> x.told(6, 0), x -> x.told(0, 10), x -> x.has(7, 0), x -> x.has(0, 5), x -> x.queued(7, 0),
        x -> x.peek(6, 0),
    };
    private static final Check.Call[] WRONG_BEHIND = {
        x -> x.partition(5, 400, 8, 0, 0), x -> x.window(0, 1), x -> x.channel(7, 0, 1, 1),
        x -> x.poke(0, 0, 9), x -> x.seal(),
    };

    public static void main(String[] args) {
        Check check = new Check();
        check.sentence("Methods throw what their comments name", RefusedCallTest::whatIsNamed);
        check.sentence("the one named first when several would do", RefusedCallTest::namedFirst);
        check.sentence("a call that throws changes nothing", RefusedCallTest::changesNothing);
        check.end();
    }

    /** Two senders, a taker and one that fails; a queue, a slot, and windows that not all are used. */
    private static void full(PartitionKernel x) {
        x.partition(0, 0, 8, 0, 0);
        x.partition(1, 8, 8, 0, 0);
        x.partition(2, 16, 8, 1, 2);
        x.channel(0, 0, 1, 2);
        x.channel(1, 2, 1, 0);
        Check.put(x, 0, Op.count(0), Op.send(0, 1, 0), Op.ifZero(3, -3));
        Check.put(x, 1, Op.take(0, 1, 0), Op.take(2, 3, 1), Op.YIELD, Op.goTo(3));
        Check.put(x, 2, Op.HALT, Op.count(1), Op.send(1, 0, 1), Op.BAD);
        x.window(0, 5);
        x.window(1, 4);
        x.window(PartitionKernel.NONE, 1);
        x.window(2, 6);
    }

    private static void going(PartitionKernel x) {
        full(x);
        x.seal();
        // In the window of 2, which has begun again and so has yielded; the queue has a word left.
        x.step(14);
    }

    private static void whatIsNamed(Check check) {
        for (int n = 0; n < WRONG_BEFORE.length; n++) {
            check.due("wrong call " + n, thrown(RefusedCallTest::full, WRONG_BEFORE[n]), "IllegalArgumentException");
        }
        for (int n = 0; n < WRONG_EVER.length; n++) {
            check.due("wrong call " + n, thrown(RefusedCallTest::full, WRONG_EVER[n]), "IllegalArgumentException");
            check.due("wrong call " + n, thrown(RefusedCallTest::going, WRONG_EVER[n]), "IllegalArgumentException");
        }
        for (int n = 0; n < WRONG_BEHIND.length; n++) {
            check.due("late call " + n, thrown(RefusedCallTest::going, WRONG_BEHIND[n]), "IllegalStateException");
        }
        check.due("an early step", thrown(RefusedCallTest::full, x -> x.step(1)), "IllegalStateException");
        check.due("too many ticks", thrown(RefusedCallTest::going, x -> x.step(5001)), "IllegalArgumentException");
        check.due("no word to poke", thrown(RefusedCallTest::full, x -> x.poke(0, 8, 1)), "IndexOutOfBoundsException");
        check.due("no word to peek", thrown(RefusedCallTest::full, x -> x.peek(0, 8)), "IndexOutOfBoundsException");
        check.due("no word to peek", thrown(RefusedCallTest::going, x -> x.peek(0, 8)), "IndexOutOfBoundsException");
    }

    private static String thrown(Check.Call before, Check.Call call) {
        PartitionKernel x = new PartitionKernel();
        before.on(x);
        return Check.thrownBy(call, x);
    }

    private static void namedFirst(Check check) {
        check.due("partition", thrown(RefusedCallTest::going, x -> x.partition(6, -1, 0, 9, 101)), "IllegalStateException");
        check.due("window", thrown(RefusedCallTest::going, x -> x.window(6, 0)), "IllegalStateException");
        check.due("channel", thrown(RefusedCallTest::going, x -> x.channel(8, 5, 5, 9)), "IllegalStateException");
        check.due("poke, all wrong", thrown(RefusedCallTest::going, x -> x.poke(6, -1, 0)), "IllegalStateException");
        check.due("poke, no word", thrown(RefusedCallTest::going, x -> x.poke(0, -1, 0)), "IllegalStateException");
        check.due("poke before", thrown(RefusedCallTest::full, x -> x.poke(5, -1, 0)), "IllegalArgumentException");
        check.due("peek", thrown(RefusedCallTest::full, x -> x.peek(5, -1)), "IllegalArgumentException");
        check.due("peek behind", thrown(RefusedCallTest::going, x -> x.peek(6, 8)), "IllegalArgumentException");
        check.due("step", thrown(RefusedCallTest::full, x -> x.step(-1)), "IllegalStateException");
    }

    private static void changesNothing(Check check) {
        for (Check.Call wrong : WRONG_BEFORE) {
            check.refused("a wrong call", Check.ARGUMENT, RefusedCallTest::full, wrong);
        }
        for (Check.Call wrong : WRONG_EVER) {
            check.refused("a wrong call", Check.ARGUMENT, RefusedCallTest::full, wrong);
            check.refused("a wrong call behind the seal", Check.ARGUMENT, RefusedCallTest::going, wrong);
        }
        for (Check.Call late : WRONG_BEHIND) {
            check.refused("a late call", Check.STATE, RefusedCallTest::going, late);
        }
        check.refused("an early step", Check.STATE, RefusedCallTest::full, x -> x.step(1));
        for (int n : new int[] {-1, 5001, Check.LOWEST, Check.HIGHEST}) {
            check.refused("step(" + n + ")", Check.ARGUMENT, RefusedCallTest::going, x -> x.step(n));
        }
        for (int i : new int[] {-1, 8}) {
            check.refused("poke of word " + i, Check.INDEX, RefusedCallTest::full, x -> x.poke(1, i, 5));
            check.refused("peek of word " + i, Check.INDEX, RefusedCallTest::going, x -> x.peek(1, i));
        }
    }
}
