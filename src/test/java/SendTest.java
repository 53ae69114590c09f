/** Terms: instructions 11 and 12, over queues and slots. */
final class SendTest {
    private static final int SEND = Op.send(0, 1, 5);
    private static final int TAKE = Op.take(0, 1, 5);

    public static void main(String[] args) {
        Check check = new Check();
        check.sentence("11 sends ra by channel i", SendTest::sends);
        check.sentence("rb is 1", SendTest::sentIsOne);
        check.sentence("but if a queue is full, nothing is sent, rb is 0.", SendTest::fullQueue);
        check.sentence("of a queue its first word, which is gone: to ra, rb is 1", SendTest::takesFirst);
        check.sentence("nothing there: rb is 0, ra stays", SendTest::nothingThere);
        check.sentence("of a slot its word to ra, rb is 1 more than how old it is", SendTest::takesOfSlot);
        check.sentence("0, ra staying, if none ever came", SendTest::noneEverCame);
        check.sentence("(When a and b are the same, rb's is put last.)", SendTest::sameRegister);
        check.sentence("a SLOT, which has the last word that came, and how old it is", SendTest::lastWord);
        check.end();
    }

    private static int[] words(int... words) {
        return words;
    }

    private static void sends(Check check) {
        for (int room : new int[] {0, 1, 8}) {
            for (int v : new int[] {0, 1, -1, 8388607, -8388608}) {
                PartitionKernel x = Check.pair(room, words(Op.set(3, v), Op.send(3, 2, 5)), words(0));
                x.step(3);
                check.hasRow("room " + room, x, 5, 1, v, 0, 1, 0);
                check.due("ra stays", x.told(0, 5), v);
                check.due("the taker hears nothing by itself", x.told(1, 2), 0);
            }
        }
    }

    private static void sentIsOne(Check check) {
        for (int room : new int[] {0, 2}) {
            PartitionKernel x = Check.pair(room, words(Op.set(1, 9), SEND, Op.set(1, 9), SEND), words(0));
            x.step(4);
            check.due("rb of the first, room " + room, x.told(0, 3), 1);
            x.step(4);
            check.due("rb of the second, room " + room, x.told(0, 3), 1);
        }
    }

    private static void fullQueue(Check check) {
        int[] sender = {SEND, Op.set(0, 9), Op.set(1, 7), SEND, SEND, SEND};
        PartitionKernel x = Check.pair(1, sender, words(Op.YIELD, Op.YIELD, Op.YIELD, Op.YIELD, TAKE));
        x.step(7);
        check.due("rb", x.told(0, 3), 0);
        check.due("ra stays", x.told(0, 2), 9);
        check.due("it is no fault", x.told(0, 9), 0);
        check.due("it is done", x.told(0, 6), 4);
        check.hasRow("full", x, 5, 1, 0, 0, 1, 1);
        x.step(2);
        check.hasRow("still full", x, 5, 1, 0, 0, 1, 2);
        x.step(1);
        check.hasRow("taken", x, 5, 0, 0, 0, 1, 2);
        x.step(1);
        check.hasRow("room again", x, 5, 1, 9, 0, 2, 2);
        check.due("rb then", x.told(0, 3), 1);
    }

    private static void takesFirst(Check check) {
        int[] sender = {Op.set(0, 8), SEND, Op.set(0, -9), SEND, Op.HALT};
        int[] taker = {Op.YIELD, Op.YIELD, Op.YIELD, Op.YIELD, TAKE, TAKE, TAKE};
        PartitionKernel x = Check.pair(2, sender, taker);
        x.step(8);
        check.queuedRow("full", x, 5, 8, -9, 0);
        x.step(2);
        check.due("the first to ra", x.told(1, 2), 8);
        check.due("rb", x.told(1, 3), 1);
        check.queuedRow("the first is gone", x, 5, -9, 0, 0);
        x.step(2);
        check.due("the second to ra", x.told(1, 2), -9);
        check.due("rb again", x.told(1, 3), 1);
        check.hasRow("empty", x, 5, 0, 0, 0, 2, 0);
        x.step(2);
        check.due("rb, nothing there", x.told(1, 3), 0);
        check.due("ra then", x.told(1, 2), -9);
    }

    private static void nothingThere(Check check) {
        PartitionKernel x = Check.pair(3, words(0), words(Op.set(0, 55), Op.set(1, 66), TAKE));
        x.step(6);
        check.toldRow("that took of an empty queue", x, 1, 1, 3, 55, 0, 0, 0, 3, 0, 0, 0);
        check.hasRow("empty", x, 5, 0, 0, 0, 0, 0);
    }

    private static void takesOfSlot(Check check) {
        int[] sender = {Op.set(0, -5), SEND, Op.HALT};
        PartitionKernel x = Check.pair(0, sender, words(Op.YIELD, TAKE, TAKE, TAKE, TAKE));
        x.step(3);
        for (int t = 0; t < 4; t++) {
            x.step(1);
            check.due("its word, taken " + t, x.told(1, 2), -5);
            check.due("1 more than its age, taken " + t, x.told(1, 3), 2 + 2 * t);
            check.hasRow("which stays", x, 5, 1, -5, 1 + 2 * t, 1, 0);
            x.step(1);
        }
    }

    private static void noneEverCame(Check check) {
        PartitionKernel x = Check.pair(0, words(0), words(Op.set(0, 55), Op.set(1, 66), TAKE));
        x.step(6);
        check.toldRow("that took of a new slot", x, 1, 1, 3, 55, 0, 0, 0, 3, 0, 0, 0);
        PartitionKernel zero = Check.pair(0, words(SEND), words(Op.set(0, 55), TAKE));
        zero.step(4);
        check.due("a 0 that came is a word", zero.told(1, 2), 0);
        check.due("its rb", zero.told(1, 3), 4);
    }

    private static void sameRegister(Check check) {
        int[] sender = {Op.set(2, 44), Op.send(2, 2, 5), Op.set(2, 45), Op.send(2, 2, 5)};
        int[] taker = {Op.YIELD, Op.YIELD, Op.take(3, 3, 5), Op.take(3, 3, 5)};
        PartitionKernel x = Check.pair(1, sender, taker);
        x.step(3);
        check.due("ra is sent before rb is put", x.has(5, 1), 44);
        check.due("sent: rb is put last", x.told(0, 4), 1);
        x.step(3);
        check.due("taken of a queue: rb is put last", x.told(1, 5), 1);
        PartitionKernel slot = Check.pair(0, sender, taker);
        slot.step(6);
        check.due("taken of a slot: rb is put last", slot.told(1, 5), 4);
        PartitionKernel empty = Check.pair(1, words(0), words(Op.set(3, 9), Op.take(3, 3, 5)));
        empty.step(4);
        check.due("nothing there: rb is put", empty.told(1, 5), 0);
        PartitionKernel none = Check.pair(0, words(0), words(Op.set(3, 9), Op.take(3, 3, 5)));
        none.step(4);
        check.due("none ever came: rb is put", none.told(1, 5), 0);
        PartitionKernel full = Check.pair(1, sender, words(0));
        full.step(7);
        check.due("full: rb is put", full.told(0, 4), 0);
    }

    private static void lastWord(Check check) {
        int[] sender = {Op.set(0, 3), SEND, Op.set(0, 4), SEND, SEND, Op.HALT};
        PartitionKernel x = Check.pair(0, sender, words(0));
        x.step(3);
        check.hasRow("the first", x, 5, 1, 3, 0, 1, 0);
        x.step(3);
        check.hasRow("the first, older", x, 5, 1, 3, 3, 1, 0);
        x.step(1);
        check.hasRow("the second", x, 5, 1, 4, 0, 2, 0);
        x.step(1);
        check.hasRow("the second, older", x, 5, 1, 4, 1, 2, 0);
        x.step(1);
        check.hasRow("the same word anew", x, 5, 1, 4, 0, 3, 0);
        x.step(40);
        check.hasRow("old", x, 5, 1, 4, 40, 3, 0);
    }
}
