/** Promise 10: has. */
final class HasTest {
    private static final int SEND = Op.send(0, 1, 5);
    private static final int TAKE = Op.take(0, 1, 5);

    public static void main(String[] args) {
        Check check = new Check();
        check.sentence("how many words are in it (what = 0;", HasTest::howMany);
        check.sentence("1 of a slot that has one)", HasTest::slotThatHasOne);
        check.sentence("the first one, or the slot's, 0 for none (1)", HasTest::first);
        check.sentence("how old that of a slot is (2;", HasTest::howOld);
        check.sentence("0 of queues)", HasTest::queuesHaveNoAge);
        check.sentence("words that came (3)", HasTest::came);
        check.sentence("that did not as it was full (4)", HasTest::didNot);
        check.sentence("the channel is not told", HasTest::notTold);
        check.sentence("or another what", HasTest::anotherWhat);
        check.end();
    }

    /** Sends 1, 2, 3 .. by channel 5, in tick 5 and each 8 ticks on; the other one has the program given. */
    private static PartitionKernel upward(int room, int... taker) {
        return Check.pair(room, new int[] {Op.set(2, 1), Op.add(0, 2), SEND, Op.ifZero(3, -4)}, taker);
    }

    private static void howMany(Check check) {
        PartitionKernel x = upward(3, 0);
        int[] words = {0, 1, 2, 3, 3, 3};
        for (int n = 0; n < words.length; n++) {
            check.due("words behind " + n, x.has(5, 0), words[n]);
            x.step(8);
        }
        PartitionKernel taken = upward(8, Op.YIELD, Op.YIELD, Op.YIELD, TAKE, TAKE, 0);
        taken.step(6);
        check.due("one", taken.has(5, 0), 1);
        taken.step(2);
        check.due("none left", taken.has(5, 0), 0);
        taken.step(2);
        check.due("none, taken again", taken.has(5, 0), 0);
    }

    private static void slotThatHasOne(Check check) {
        PartitionKernel x = upward(0, Op.YIELD, Op.YIELD, Op.YIELD, TAKE, 0);
        check.due("a new slot", x.has(5, 0), 0);
        x.step(4);
        check.due("still none", x.has(5, 0), 0);
        x.step(1);
        check.due("one", x.has(5, 0), 1);
        x.step(3);
        check.due("one, though it was taken", x.has(5, 0), 1);
        x.step(40);
        check.due("one, though many came", x.has(5, 0), 1);
    }

    private static void first(Check check) {
        PartitionKernel queue = upward(2, Op.YIELD, Op.YIELD, Op.YIELD, Op.YIELD, Op.YIELD, Op.YIELD, TAKE, TAKE, 0);
        check.due("none", queue.has(5, 1), 0);
        queue.step(5);
        check.due("the first", queue.has(5, 1), 1);
        queue.step(8);
        check.due("the first, though another one came", queue.has(5, 1), 1);
        queue.step(1);
        check.due("the next, when it was taken", queue.has(5, 1), 2);
        queue.step(2);
        check.due("none again", queue.has(5, 1), 0);
        PartitionKernel slot = upward(0, 0);
        check.due("none in the slot", slot.has(5, 1), 0);
        for (int n = 1; n <= 5; n++) {
            slot.step(8);
            check.due("the slot's", slot.has(5, 1), n);
        }
        PartitionKernel below = Check.pair(1, new int[] {Op.load(0, 0, 2), SEND, Check.LOWEST}, new int[] {0});
        below.step(3);
        check.due("the lowest word", below.has(5, 1), Check.LOWEST);
    }

    private static void howOld(Check check) {
        PartitionKernel x = upward(0, TAKE, TAKE, TAKE, TAKE, TAKE, TAKE, 0);
        for (int t = 1; t <= 4; t++) {
            x.step(1);
            check.due("none came yet, tick " + t, x.has(5, 2), 0);
        }
        for (int t = 5; t <= 40; t++) {
            x.step(1);
            check.due("age, tick " + t, x.has(5, 2), (t - 5) % 8);
        }
        x.step(0);
        check.due("behind no tick", x.has(5, 2), 3);
    }

    private static void queuesHaveNoAge(Check check) {
        for (int room = 1; room <= 8; room++) {
            PartitionKernel x = upward(room, 0);
            for (int t = 0; t < 40; t++) {
                check.due("age of a queue", x.has(5, 2), 0);
                x.step(1);
            }
        }
    }

    private static void came(Check check) {
        for (int room : new int[] {0, 1, 8}) {
            PartitionKernel x = upward(room, TAKE, Op.ifZero(2, -2));
            for (int n = 0; n < 12; n++) {
                check.due("came, room " + room, x.has(5, 3), n);
                check.due("refused, room " + room, x.has(5, 4), 0);
                x.step(8);
            }
        }
    }

    private static void didNot(Check check) {
        for (int room : new int[] {1, 8}) {
            PartitionKernel x = upward(room, 0);
            for (int n = 0; n < 12; n++) {
                check.due("came, room " + room, x.has(5, 3), Math.min(n, room));
                check.due("did not, room " + room, x.has(5, 4), Math.max(0, n - room));
                x.step(8);
            }
        }
        PartitionKernel slot = upward(0, 0);
        slot.step(5000);
        check.due("a slot is never full", slot.has(5, 4), 0);
        check.due("all came", slot.has(5, 3), 625);
    }

    private static void one(PartitionKernel x) {
        x.partition(0, 0, 8, 0, 0);
        x.partition(1, 8, 8, 0, 0);
        x.channel(2, 0, 1, 2);
        x.channel(3, 0, 1, 0);
        x.window(0, 1);
    }

    private static void sealedOne(PartitionKernel x) {
        one(x);
        x.seal();
    }

    private static void notTold(Check check) {
        for (int c : new int[] {0, 1, 4, 7, -1, 8, Check.LOWEST, Check.HIGHEST}) {
            check.refused("has(" + c + ", 0)", Check.ARGUMENT, HasTest::one, x -> x.has(c, 0));
            check.refused("has(" + c + ", 5)", Check.ARGUMENT, HasTest::one, x -> x.has(c, 5));
            check.refused("sealed, has(" + c + ", 0)", Check.ARGUMENT, HasTest::sealedOne, x -> x.has(c, 0));
        }
        check.refused("of a refused call", Check.ARGUMENT, x -> {
            one(x);
            Check.thrownBy(k -> k.channel(0, 0, 1, 9), x);
        }, x -> x.has(0, 0));
    }

    private static void anotherWhat(Check check) {
        for (int c = 2; c <= 3; c++) {
            int number = c;
            for (int what : new int[] {-1, 5, Check.LOWEST, Check.HIGHEST}) {
                check.refused("has(" + c + ", " + what + ")", Check.ARGUMENT, HasTest::one, x -> x.has(number, what));
            }
            for (int what = 0; what <= 4; what++) {
                int due = what;
                check.accepted("has(" + c + ", " + what + ")", HasTest::one, x -> x.has(number, due));
            }
        }
    }
}
