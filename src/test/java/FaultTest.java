/** Promise 8: what faults, and what a fault does. */
final class FaultTest {
    public static void main(String[] args) {
        Check check = new Check();
        placeFaults(check);
        wordFaults(check);
        channelFaults(check);
        codeFault(check);
        nothingIsDone(check);
        beginsAgain(check);
        yieldsWhenItBeginsAgain(check);
        memoryAndChannelsStay(check);
        othersGoOn(check);
        check.end();
    }

    private static void faulted(Check check, String call, PartitionKernel x, int place, int fault) {
        check.due(call + ": state", x.told(0, 0), 3);
        check.due(call + ": place", x.told(0, 1), place);
        check.due(call + ": last fault", x.told(0, 8), fault);
        check.due(call + ": faults", x.told(0, 9), 1);
        check.due(call + ": restarts left", x.told(0, 7), 0);
        check.due(call + ": no more", x.step(50), 0);
    }

    private static void placeFaults(Check check) {
        PartitionKernel behind = Check.alone(2, 0, Check.word(1, 0, 0, 1), Check.word(1, 1, 0, 2));
        check.due("its end", behind.step(3), 3);
        check.due("done", behind.told(0, 6), 2);
        faulted(check, "its end", behind, 2, 1);
        for (int place : new int[] {-1, 4, 412, -100, 1 << 22}) {
            PartitionKernel x = Check.alone(4, 0, Check.word(1, 2, 0, place), Check.word(10, 2, 0, 0));
            x.step(3);
            faulted(check, "place " + place, x, place, 1);
        }
    }

    private static void wordFaults(Check check) {
        int[][] none = {{6, -1}, {6, 4}, {7, -1}, {7, 4}, {6, (1 << 23) - 1}, {7, -(1 << 23)}};
        for (int[] c : none) {
            PartitionKernel x = Check.alone(4, 0, Check.word(c[0], 1, 0, c[1]));
            x.step(1);
            faulted(check, "op " + c[0] + " at " + c[1], x, 0, 2);
        }
        for (int far : new int[] {Integer.MAX_VALUE, Integer.MIN_VALUE}) {
            PartitionKernel x = Check.alone(4, 0, Check.word(6, 1, 0, 3), Check.word(6, 2, 1, far < 0 ? -1 : 1), 0, far);
            x.step(2);
            faulted(check, "a sum that wraps from " + far, x, 1, 2);
        }
        PartitionKernel edge = Check.alone(4, 0, Check.word(6, 1, 0, 3), Check.word(7, 1, 0, 2), 0, 88);
        edge.step(2);
        check.due("its last word is there", edge.told(0, 3), 88);
        check.due("no fault", edge.told(0, 9), 0);
    }

    private static void channelFaults(Check check) {
        int[] wrong = {0, 2, 3, 7, 8, -1, 256, -(1 << 23)};
        for (int c : wrong) {
            oneChannelFault(check, 11, c);
        }
        int[] wrongToTake = {0, 1, 3, 7, 8, -1, 257, -(1 << 23)};
        for (int c : wrongToTake) {
            oneChannelFault(check, 12, c);
        }
        check.due("its own channel to send by", faultsOf(11, 1), 0);
        check.due("its own channel to take from", faultsOf(12, 2), 0);
    }

    private static PartitionKernel amongChannels(int op, int c) {
        PartitionKernel x = new PartitionKernel();
        for (int p = 0; p < 3; p++) {
            x.partition(p, p * 8, 8, 0, 0);
        }
        x.channel(1, 0, 1, 0);
        x.channel(2, 1, 0, 3);
        x.channel(3, 1, 2, 3);
        Check.put(x, 0, Check.word(op, 1, 2, c));
        x.window(0, 1);
        x.seal();
        x.step(1);
        return x;
    }

    private static void oneChannelFault(Check check, int op, int c) {
        faulted(check, "op " + op + " by channel " + c, amongChannels(op, c), 0, 3);
    }

    private static int faultsOf(int op, int c) {
        return amongChannels(op, c).told(0, 9);
    }

    private static void codeFault(Check check) {
        PartitionKernel x = Check.alone(4, 0, Check.word(15, 1, 2, 3));
        x.step(1);
        faulted(check, "op 15", x, 0, 4);
    }

    private static void nothingIsDone(Check check) {
        PartitionKernel x = Check.alone(8, 0, Check.word(1, 1, 0, 31), Check.word(1, 2, 0, 32), Check.word(12, 1, 2, 0));
        check.due("the fault's tick counts", x.step(9), 3);
        check.due("ra", x.told(0, 3), 31);
        check.due("rb", x.told(0, 4), 32);
        check.due("place", x.told(0, 1), 2);
        check.due("done, without it", x.told(0, 6), 2);
    }

    private static void beginsAgain(Check check) {
        PartitionKernel x = new PartitionKernel();
        x.partition(0, 0, 8, 2, 2);
        Check.put(x, 0, 0, 0, Check.word(1, 3, 0, 5), 15);
        x.window(0, 1);
        x.seal();
        check.due("as far as the first fault", x.step(2), 2);
        for (int restarts = 1; restarts <= 2; restarts++) {
            check.due("state", x.told(0, 0), 1);
            check.due("the place is the entry", x.told(0, 1), 2);
            check.due("registers are 0", x.told(0, 5), 0);
            check.due("restarts left", x.told(0, 7), 2 - restarts);
            check.due("faults", x.told(0, 9), restarts);
            check.due("last fault", x.told(0, 8), 4);
            check.due("done", x.told(0, 6), restarts);
            check.due("it goes again", x.step(2), 2);
        }
        check.due("it may not again", x.told(0, 0), 3);
        check.due("the place stays", x.told(0, 1), 3);
        check.due("registers stay", x.told(0, 5), 5);
        check.due("all faults", x.told(0, 9), 3);
        check.due("restarts left at last", x.told(0, 7), 0);
        check.due("no more", x.step(5), 0);
    }

    private static void yieldsWhenItBeginsAgain(Check check) {
        PartitionKernel x = new PartitionKernel();
        x.partition(0, 0, 8, 0, 100);
        Check.put(x, 0, Check.word(1, 0, 0, 1), 15);
        x.window(0, 5);
        x.window(PartitionKernel.NONE, 1);
        x.seal();
        check.due("two of a window's five ticks", x.step(6), 2);
        check.due("at its entry", x.told(0, 1), 0);
        check.due("and again in the next frame", x.step(6), 2);
        check.due("a hundred restarts, and the last fault", x.step(5000), 2 * 101 - 4);
        check.due("state", x.told(0, 0), 3);
        check.due("faults", x.told(0, 9), 101);
    }

    private static void memoryAndChannelsStay(Check check) {
        PartitionKernel x = new PartitionKernel();
        x.partition(0, 0, 8, 0, 1);
        x.partition(1, 8, 8, 0, 0);
        x.channel(0, 0, 1, 4);
        x.channel(1, 0, 1, 0);
        Check.put(x, 0, Check.word(1, 1, 0, 7), Check.word(7, 1, 0, 6), Check.word(11, 1, 2, 0), Check.word(11, 1, 2, 1), 15);
        x.window(0, 1);
        x.seal();
        x.step(5);
        check.due("it has begun again", x.told(0, 7), 0);
        check.due("memory", x.peek(0, 6), 7);
        check.due("the queue", x.has(0, 0), 1);
        check.due("the queue's word", x.queued(0, 0), 7);
        check.due("the slot's word", x.has(1, 1), 7);
        check.due("words that came", x.has(0, 3), 1);
    }

    private static void othersGoOn(Check check) {
        PartitionKernel x = new PartitionKernel();
        x.partition(0, 0, 8, 0, 0);
        x.partition(1, 8, 8, 0, 0);
        Check.put(x, 0, 15);
        Check.put(x, 1, Check.word(14, 1, 0, 0), Check.word(8, 0, 0, -2));
        x.window(0, 2);
        x.window(1, 2);
        x.seal();
        check.due("the fault, and another one's instructions", x.step(8), 5);
        check.due("its state", x.told(1, 0), 1);
        check.due("its faults", x.told(1, 9), 0);
        check.due("its instructions", x.told(1, 6), 4);
    }
}
