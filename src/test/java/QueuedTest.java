/** Promise 11: queued. */
final class QueuedTest {
    public static void main(String[] args) {
        Check check = new Check();
        check.sentence("Word k of a queue, from its first on", QueuedTest::fromItsFirstOn);
        check.sentence("a QUEUE of up to so many words", QueuedTest::goesRound);
        check.sentence("0 where there is none", QueuedTest::noneThere);
        check.sentence("IllegalArgumentException: the channel is not told.", QueuedTest::notTold);
        check.end();
    }

    /** Each frame sends one more of 1, 2, 3 ..; then one is taken, if the frame has a taker. */
    private static PartitionKernel pair(int room, boolean taking) {
        PartitionKernel x = new PartitionKernel();
        x.partition(0, 0, 8, 0, 0);
        x.partition(1, 8, 8, 0, 0);
        x.channel(2, 0, 1, room);
        Check.put(x, 0, Op.set(1, 1), Op.add(0, 1), Op.send(0, 2, 2), Op.YIELD, Op.ifZero(3, -4));
        Check.put(x, 1, Op.take(0, 1, 2), Op.YIELD, Op.ifZero(2, -3));
        x.window(0, 8);
        x.window(taking ? 1 : PartitionKernel.NONE, 4);
        x.seal();
        return x;
    }

    private static void frames(PartitionKernel x, int n) {
        for (int t = 0; t < n; t++) {
            x.step(12);
        }
    }

    private static void fromItsFirstOn(Check check) {
        PartitionKernel x = pair(8, false);
        frames(x, 3);
        check.queuedRow("of three", x, 2, 1, 2, 3, 0, 0, 0, 0, 0, 0);
        frames(x, 7);
        check.queuedRow("when it is full", x, 2, 1, 2, 3, 4, 5, 6, 7, 8, 0);
        check.due("the first is what has tells", x.has(2, 1), 1);
        PartitionKernel small = pair(3, false);
        frames(small, 5);
        check.queuedRow("of a small one, full", small, 2, 1, 2, 3, 0, 0);
        PartitionKernel taken = pair(8, true);
        taken.step(8);
        check.queuedRow("one", taken, 2, 1, 0);
        taken.step(1);
        check.queuedRow("taken", taken, 2, 0, 0);
    }

    /** Each frame puts one word in and takes one out, while some words stay in it, at every room. */
    private static void goesRound(Check check) {
        for (int room = 1; room <= 8; room++) {
            for (int fill = 1; fill <= room; fill++) {
                PartitionKernel x = staying(room, fill);
                x.step(7 * (fill - 1));
                for (int n = 1; n <= 20; n++) {
                    x.step(4);
                    check.queuedRow("room " + room + ", sent", x, 2, upFrom(n, fill));
                    x.step(3);
                    check.queuedRow("room " + room + ", taken", x, 2, upFrom(n + 1, fill - 1));
                    check.due("the one taken", x.told(1, 2), n);
                }
                check.due("none is refused", x.has(2, 4), 0);
            }
        }
    }

    /** The taker rests in its first windows, until the queue has fill words. */
    private static PartitionKernel staying(int room, int fill) {
        PartitionKernel x = new PartitionKernel();
        x.partition(0, 0, 8, 0, 0);
        x.partition(1, 8, 16, 8 - fill, 0);
        x.channel(2, 0, 1, room);
        Check.put(x, 0, Op.set(1, 1), Op.add(0, 1), Op.send(0, 2, 2), Op.YIELD, Op.ifZero(3, -4));
        Check.put(x, 1, Op.YIELD, Op.YIELD, Op.YIELD, Op.YIELD, Op.YIELD, Op.YIELD, Op.YIELD,
                Op.take(0, 1, 2), Op.YIELD, Op.ifZero(2, -3));
        x.window(0, 4);
        x.window(1, 3);
        x.seal();
        return x;
    }

    private static int[] upFrom(int first, int count) {
        int[] words = new int[9];
        for (int k = 0; k < count; k++) {
            words[k] = first + k;
        }
        return words;
    }

    private static void noneThere(Check check) {
        PartitionKernel x = pair(8, false);
        check.queuedRow("of a new one", x, 2, 0, 0, 0, 0, 0, 0, 0, 0, 0);
        frames(x, 9);
        for (int k : new int[] {-1, 8, 9, Check.LOWEST, Check.HIGHEST}) {
            check.due("queued(2, " + k + ") of a full one", x.queued(2, k), 0);
        }
        PartitionKernel some = pair(3, false);
        frames(some, 2);
        for (int k : new int[] {-1, 2, 3, 8, Check.LOWEST, Check.HIGHEST}) {
            check.due("queued(2, " + k + ") of two", some.queued(2, k), 0);
        }
        PartitionKernel slot = pair(0, false);
        frames(slot, 1);
        check.due("the slot has a word", slot.has(2, 1), 1);
        check.queuedRow("of a slot, which is no queue", slot, 2, 0, 0);
        PartitionKernel empty = pair(2, true);
        frames(empty, 1);
        check.queuedRow("words that are gone", empty, 2, 0, 0, 0);
    }

    private static void one(PartitionKernel x) {
        x.partition(0, 0, 8, 0, 0);
        x.partition(1, 8, 8, 0, 0);
        x.channel(2, 0, 1, 2);
        x.window(0, 1);
    }

    private static void notTold(Check check) {
        for (int c : new int[] {0, 1, 3, 7, -1, 8, Check.LOWEST, Check.HIGHEST}) {
            check.refused("queued(" + c + ", 0)", Check.ARGUMENT, QueuedTest::one, x -> x.queued(c, 0));
            check.refused("queued(" + c + ", -1)", Check.ARGUMENT, QueuedTest::one, x -> x.queued(c, -1));
            check.refused("sealed, queued(" + c + ", 0)", Check.ARGUMENT, x -> {
                one(x);
                x.seal();
            }, x -> x.queued(c, 0));
        }
    }
}
