/** Promise 8: what each instruction does, seen one tick at a time. */
final class InstructionTest {
    private static final int HIGHEST_I = (1 << 23) - 1;
    private static final int LOWEST_I = -(1 << 23);

    public static void main(String[] args) {
        Check check = new Check();
        halting(check);
        setting(check);
        arithmetic(check);
        loadingAndStoring(check);
        jumping(check);
        counting(check);
        queues(check);
        slots(check);
        sameRegister(check);
        check.end();
    }

    /** A word whose unused fields are full: they must not matter. */
    private static int noisy(int op) {
        return op | 0xFFFFFFF0;
    }

    private static void halting(Check check) {
        PartitionKernel x = Check.alone(8, 3, noisy(0), Check.word(1, 0, 0, 5));
        check.due("halt", x.step(1), 1);
        check.due("state", x.told(0, 0), 2);
        check.due("place behind it", x.told(0, 1), 1);
        check.due("it counts", x.told(0, 6), 1);
        check.due("no more", x.step(20), 0);
        check.due("its register stays", x.told(0, 2), 0);
        check.due("restarts stay", x.told(0, 7), 3);
    }

    private static void setting(Check check) {
        int[] values = {0, 1, -1, 255, -256, HIGHEST_I, LOWEST_I};
        for (int a = 0; a < 4; a++) {
            for (int v : values) {
                PartitionKernel x = Check.alone(4, 0, Check.word(1, a, 3 - a, v));
                x.step(1);
                for (int r = 0; r < 4; r++) {
                    check.due("r" + r + " when r" + a + " is " + v, x.told(0, 2 + r), r == a ? v : 0);
                }
                check.due("place", x.told(0, 1), 1);
            }
        }
    }

    /** r1 and r2 from memory, the instruction on them, and what r1 and r2 are then. */
    private static void compute(Check check, int op, int first, int second, int want) {
        PartitionKernel x = Check.alone(8, 0, Check.word(6, 1, 0, 5), Check.word(6, 2, 0, 6),
                Check.word(op, 1, 2, 77), 0, 0, first, second);
        x.step(3);
        check.due("op " + op + " of " + first + ", " + second, x.told(0, 3), want);
        check.due("its second register", x.told(0, 4), second);
        check.due("its done", x.told(0, 6), 3);
    }

    private static void arithmetic(Check check) {
        compute(check, 2, 5, 7, 12);
        compute(check, 2, Integer.MAX_VALUE, 1, Integer.MIN_VALUE);
        compute(check, 3, 5, 7, -2);
        compute(check, 3, Integer.MIN_VALUE, 1, Integer.MAX_VALUE);
        compute(check, 4, 5, -7, -35);
        compute(check, 4, 65536, 65537, 65536);
        compute(check, 4, Integer.MIN_VALUE, -1, Integer.MIN_VALUE);
        compute(check, 5, 12, 10, 6);
        compute(check, 5, -1, 1, -2);
        PartitionKernel x = Check.alone(8, 0, Check.word(1, 2, 0, 9), Check.word(4, 2, 2, 0),
                Check.word(2, 2, 2, 0), Check.word(5, 2, 2, 0));
        x.step(2);
        check.due("9 times itself", x.told(0, 4), 81);
        x.step(1);
        check.due("81 and itself", x.told(0, 4), 162);
        x.step(1);
        check.due("exclusive or itself", x.told(0, 4), 0);
    }

    private static void loadingAndStoring(Check check) {
        PartitionKernel x = Check.alone(8, 0, Check.word(1, 3, 0, 9), Check.word(6, 0, 3, -2),
                Check.word(7, 3, 3, -3), Check.word(6, 3, 3, -9), Check.word(7, 0, 2, 5), 0, 0, 1234);
        x.step(2);
        check.due("word 9 - 2", x.told(0, 2), 1234);
        x.step(1);
        check.due("word 9 - 3", x.peek(0, 6), 9);
        check.due("ra stays", x.told(0, 5), 9);
        x.step(1);
        check.due("word 0, ra and rb the same", x.told(0, 5), Check.word(1, 3, 0, 9));
        x.step(2);
        check.due("word 5", x.peek(0, 5), 1234);
        check.due("that word is done as it is then", x.told(0, 0), 1);
        PartitionKernel own = Check.alone(2, 0, Check.word(7, 0, 0, 1), 15);
        check.due("a program writes itself", own.step(3), 2);
        check.due("it halts", own.told(0, 0), 2);
    }

    private static int placeBehindJump(int op, int value, int by) {
        PartitionKernel x = Check.alone(40, 0, Check.word(1, 2, 0, value), Check.word(op, 2, 1, by));
        x.step(2);
        return x.told(0, 1);
    }

    private static void jumping(Check check) {
        check.due("8 of 0", placeBehindJump(8, 0, 30), 32);
        check.due("8 of 0, back", placeBehindJump(8, 0, -2), 0);
        check.due("8 of 1", placeBehindJump(8, 1, 30), 2);
        check.due("8 of -1", placeBehindJump(8, -1, 30), 2);
        check.due("9 of -1", placeBehindJump(9, -1, 30), 32);
        check.due("9 of 0", placeBehindJump(9, 0, 30), 2);
        check.due("9 of 1", placeBehindJump(9, 1, 30), 2);
        check.due("10", placeBehindJump(10, 17, 30), 17);
        check.due("10 out of its region is no fault yet", placeBehindJump(10, 40, 0), 40);
        check.due("10 below 0", placeBehindJump(10, LOWEST_I, 0), LOWEST_I);
        check.due("8, far away", placeBehindJump(8, 0, HIGHEST_I), HIGHEST_I + 2);
        check.due("9, far back", placeBehindJump(9, -5, LOWEST_I), LOWEST_I + 2);
    }

    private static void counting(Check check) {
        PartitionKernel x = Check.alone(8, 1, Check.word(14, 1, 0, 0), Check.word(14, 2, 3, 9),
                Check.word(13, 0, 0, 0), Check.word(14, 3, 0, 0), 15);
        x.step(1);
        check.due("none before", x.told(0, 3), 0);
        x.step(3);
        check.due("one before", x.told(0, 4), 1);
        check.due("a yield counts", x.told(0, 5), 3);
        x.step(2);
        check.due("a faulted one does not, and a restart takes none away", x.told(0, 3), 4);
    }

    private static PartitionKernel pair(int room, int[] sender, int[] taker) {
        PartitionKernel x = new PartitionKernel();
        x.partition(0, 0, 20, 0, 0);
        x.partition(1, 20, 20, 0, 0);
        Check.put(x, 0, sender);
        Check.put(x, 1, taker);
        x.channel(5, 0, 1, room);
        x.window(0, 1);
        x.window(1, 1);
        x.seal();
        return x;
    }

    private static void queues(Check check) {
        int[] sender = {Check.word(1, 0, 0, 8), Check.word(11, 0, 1, 5), Check.word(1, 0, 0, 9),
            Check.word(11, 0, 2, 5), Check.word(1, 0, 0, 10), Check.word(1, 3, 0, 6), Check.word(11, 0, 3, 5),
            Check.word(11, 0, 3, 5)};
        int[] taker = {Check.word(1, 1, 0, 3), Check.word(1, 2, 0, 4), Check.word(13, 0, 0, 0), Check.word(13, 0, 0, 0),
            Check.word(13, 0, 0, 0), Check.word(13, 0, 0, 0), Check.word(13, 0, 0, 0), Check.word(12, 1, 2, 5),
            Check.word(12, 1, 2, 5), Check.word(12, 1, 2, 5), Check.word(12, 1, 2, 5), Check.word(0, 0, 0, 0)};
        PartitionKernel x = pair(2, sender, taker);
        x.step(14);
        check.due("rb of the first", x.told(0, 3), 1);
        check.due("rb of the second", x.told(0, 4), 1);
        check.due("rb of one that was refused", x.told(0, 5), 0);
        check.due("in it", x.has(5, 0), 2);
        check.due("refused", x.has(5, 4), 1);
        x.step(2);
        check.due("the last one's rb, still full", x.told(0, 5), 0);
        check.due("the first taken", x.told(1, 3), 8);
        check.due("rb", x.told(1, 4), 1);
        check.due("one is left", x.has(5, 0), 1);
        x.step(2);
        check.due("the second taken", x.told(1, 3), 9);
        check.due("rb again", x.told(1, 4), 1);
        x.step(2);
        check.due("ra stays when there is nothing", x.told(1, 3), 9);
        check.due("rb then", x.told(1, 4), 0);
        check.due("not a fault", x.told(1, 9), 0);
        check.due("words that came", x.has(5, 3), 2);
    }

    private static void slots(Check check) {
        int[] sender = {Check.word(13, 0, 0, 0), Check.word(1, 0, 0, -5), Check.word(11, 0, 1, 5), Check.word(13, 0, 0, 0),
            Check.word(13, 0, 0, 0), Check.word(1, 0, 0, 6), Check.word(11, 0, 2, 5), 0};
        int take = Check.word(12, 1, 2, 5);
        int[] taker = {Check.word(1, 1, 0, 3), take, take, take, take, take, take, take};
        PartitionKernel x = pair(0, sender, taker);
        x.step(4);
        check.due("ra stays when none ever came", x.told(1, 3), 3);
        check.due("rb then", x.told(1, 4), 0);
        int[] word = {-5, -5, -5, -5, 6, 6};
        int[] rb = {2, 4, 6, 8, 2, 4};
        for (int t = 0; t < 6; t++) {
            x.step(2);
            check.due("slot's word " + t, x.told(1, 3), word[t]);
            check.due("1 more than its age " + t, x.told(1, 4), rb[t]);
            check.due("its age " + t, x.has(5, 2), rb[t] - 1);
        }
        check.due("the sender's rb", x.told(0, 3), 1);
        check.due("the sender's rb when it puts over", x.told(0, 4), 1);
        check.due("the slot is not emptied", x.has(5, 0), 1);
        check.due("came", x.has(5, 3), 2);
        check.due("none refused", x.has(5, 4), 0);
    }

    private static void sameRegister(Check check) {
        int[] sender = {Check.word(1, 2, 0, 44), Check.word(11, 2, 2, 5), Check.word(1, 2, 0, 45), Check.word(11, 2, 2, 5)};
        int[] taker = {Check.word(13, 0, 0, 0), Check.word(13, 0, 0, 0), Check.word(12, 3, 3, 5), Check.word(12, 3, 3, 5)};
        PartitionKernel x = pair(1, sender, taker);
        x.step(3);
        check.due("sent before rb is put", x.has(5, 1), 44);
        check.due("rb is put last", x.told(0, 4), 1);
        x.step(3);
        check.due("taken: rb is put last", x.told(1, 5), 1);
        PartitionKernel slot = pair(0, sender, taker);
        slot.step(6);
        check.due("taken of a slot: rb is put last", slot.told(1, 5), 4);
        PartitionKernel empty = pair(1, new int[] {0}, new int[] {Check.word(1, 3, 0, 9), Check.word(12, 3, 3, 5)});
        empty.step(4);
        check.due("nothing there: rb is put", empty.told(1, 5), 0);
    }
}
