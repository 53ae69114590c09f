/** Promise 11: queued. */
final class QueuedTest {
    public static void main(String[] args) {
        Check check = new Check();
        fullQueue(check);
        goesRound(check);
        slotHasNoQueue(check);
        wrongInputs(check);
        check.end();
    }

    private static void row(Check check, PartitionKernel x, int... want) {
        for (int k = 0; k < want.length; k++) {
            check.due("queued(2, " + k + ") at " + x.ticks(), x.queued(2, k), want[k]);
        }
    }

    /** Sends 1, 2, 3 and so on by channel 2, one each frame; then as many as may be are taken. */
    private static PartitionKernel pair(int room, int taking) {
        PartitionKernel x = new PartitionKernel();
        x.partition(0, 0, 8, 0, 0);
        x.partition(1, 8, 8, 0, 0);
        x.channel(2, 0, 1, room);
        Check.put(x, 0, Check.word(1, 1, 0, 1), Check.word(2, 0, 1, 0), Check.word(11, 0, 2, 2),
                Check.word(13, 0, 0, 0), Check.word(8, 3, 0, -4));
        Check.put(x, 1, Check.word(12, 0, 1, 2), Check.word(8, 2, 0, -2));
        x.window(0, 8);
        x.window(taking == 0 ? PartitionKernel.NONE : 1, 4);
        x.seal();
        return x;
    }

    private static void fullQueue(Check check) {
        PartitionKernel x = pair(8, 0);
        row(check, x, 0, 0, 0, 0, 0, 0, 0, 0, 0);
        for (int n = 0; n < 3; n++) {
            x.step(12);
        }
        row(check, x, 1, 2, 3, 0, 0, 0, 0, 0, 0);
        for (int n = 0; n < 7; n++) {
            x.step(12);
        }
        row(check, x, 1, 2, 3, 4, 5, 6, 7, 8, 0);
        check.due("k -1", x.queued(2, -1), 0);
        check.due("k 8", x.queued(2, 8), 0);
        check.due("the highest k", x.queued(2, Integer.MAX_VALUE), 0);
        check.due("the lowest k", x.queued(2, Integer.MIN_VALUE), 0);
        PartitionKernel small = pair(3, 0);
        for (int n = 0; n < 5; n++) {
            small.step(12);
        }
        row(check, small, 1, 2, 3, 0, 0);
    }

    private static void goesRound(Check check) {
        for (int room = 1; room <= 8; room++) {
            PartitionKernel x = pair(room, 1);
            for (int n = 1; n <= 20; n++) {
                x.step(8);
                row(check, x, n, 0);
                x.step(4);
                row(check, x, 0, 0);
                check.due("taken", x.told(1, 2), n);
            }
        }
    }

    private static void slotHasNoQueue(Check check) {
        PartitionKernel x = pair(0, 0);
        x.step(8);
        check.due("the slot has a word", x.has(2, 1), 1);
        row(check, x, 0, 0);
    }

    private static void wrongInputs(Check check) {
        Check.Call before = x -> {
            x.partition(0, 0, 8, 0, 0);
            x.partition(1, 8, 8, 0, 0);
            x.channel(0, 0, 1, 2);
        };
        check.refused("not told", Check.ARGUMENT, before, x -> x.queued(1, 0));
        check.refused("number -1", Check.ARGUMENT, before, x -> x.queued(-1, 0));
        check.refused("number 8", Check.ARGUMENT, before, x -> x.queued(8, 0));
        check.refused("the lowest", Check.ARGUMENT, before, x -> x.queued(Integer.MIN_VALUE, 0));
    }
}
