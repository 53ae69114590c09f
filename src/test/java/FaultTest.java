/** Terms: what faults, and what a fault does. */
final class FaultTest {
    public static void main(String[] args) {
        Check check = new Check();
        check.sentence("(its place must be in its region, else fault 1)", FaultTest::placeFaults);
        check.sentence("(fault 2, if there is none)", FaultTest::wordFaults);
        check.sentence("(fault 3, if there is none from it)", FaultTest::sendFaults);
        check.sentence("(fault 3, if there is none to it)", FaultTest::takeFaults);
        check.sentence("15 is fault 4.", FaultTest::codeFault);
        check.sentence("A FAULT: nothing of the instruction is done.", FaultTest::nothingIsDone);
        check.sentence("If it may restart once more: it is counted", FaultTest::restartsAreCounted);
        check.sentence("registers are 0, the place is the entry", FaultTest::beginsAgain);
        check.sentence("memory and channels stay", FaultTest::memoryAndChannelsStay);
        check.sentence("and it has yielded in this window", FaultTest::hasYielded);
        check.sentence("Else it is faulted.", FaultTest::isFaulted);
        check.sentence("one that fails is stopped, or begins again", FaultTest::othersGoOn);
        check.end();
    }

    private static void faulted(Check check, String call, PartitionKernel x, int place, int fault) {
        check.due(call + ": state", x.told(0, 0), 3);
        check.due(call + ": place", x.told(0, 1), place);
        check.due(call + ": last fault", x.told(0, 8), fault);
        check.due(call + ": faults", x.told(0, 9), 1);
        check.due(call + ": restarts left", x.told(0, 7), 0);
        check.due(call + ": no more", x.step(50), 0);
    }

    private static void placeFaults(Check check) {
        PartitionKernel behind = Check.alone(2, 0, Op.set(0, 1), Op.set(1, 2));
        check.due("its end", behind.step(3), 3);
        check.due("done", behind.told(0, 6), 2);
        faulted(check, "its end", behind, 2, 1);
        for (int place : new int[] {-1, 4, 412, -100, Check.LOWEST, Check.HIGHEST}) {
            PartitionKernel x = Check.alone(4, 0, Op.load(2, 0, 3), Op.goTo(2), 0, place);
            check.due("two done, and the fault", x.step(3), 3);
            faulted(check, "place " + place, x, place, 1);
        }
        PartitionKernel back = Check.alone(4, 0, Op.ifZero(0, -2));
        back.step(2);
        faulted(check, "before its first word", back, -1, 1);
        PartitionKernel edge = Check.alone(4, 0, Op.ifZero(0, 2), 0, 0, Op.set(0, 5));
        edge.step(2);
        check.due("its last word is in it", edge.told(0, 2), 5);
        atMemorysEnds(check);
    }

    /** The words beside these regions are no memory at all, or another one's. */
    private static void atMemorysEnds(Check check) {
        PartitionKernel x = new PartitionKernel();
        x.partition(0, 510, 2, 1, 0);
        x.partition(1, 0, 2, 0, 0);
        x.partition(2, 2, 2, 0, 0);
        x.poke(0, 1, Op.YIELD);
        x.poke(1, 0, Op.ifZero(0, -2));
        x.poke(2, 0, Op.ifZero(0, -3));
        for (int p = 0; p < 3; p++) {
            x.window(p, 2);
        }
        x.seal();
        x.step(12);
        check.toldRow("behind memory's end", x, 0, 3, 2, 0, 0, 0, 0, 1, 0, 1, 1);
        check.toldRow("before memory's start", x, 1, 3, -1, 0, 0, 0, 0, 1, 0, 1, 1);
        check.toldRow("in another one's region", x, 2, 3, -2, 0, 0, 0, 0, 1, 0, 1, 1);
    }

    private static void wordFaults(Check check) {
        for (int op : new int[] {6, 7}) {
            for (int at : new int[] {-1, 4, 5, 412, -100, (1 << 23) - 1, -(1 << 23)}) {
                PartitionKernel x = Check.alone(4, 0, Op.word(op, 1, 0, at));
                x.step(1);
                faulted(check, "op " + op + " at " + at, x, 0, 2);
            }
            for (int far : new int[] {Check.HIGHEST, Check.LOWEST}) {
                PartitionKernel x = Check.alone(4, 0, Op.load(1, 0, 3), Op.word(op, 2, 1, far < 0 ? -1 : 1), 0, far);
                x.step(2);
                faulted(check, "op " + op + ", a sum that wraps around from " + far, x, 1, 2);
            }
            for (int at : new int[] {0, 3}) {
                PartitionKernel x = Check.alone(4, 0, Op.word(op, 1, 0, at));
                x.step(1);
                check.due("op " + op + " at " + at + " has its word", x.told(0, 9), 0);
            }
        }
        PartitionKernel end = new PartitionKernel();
        end.partition(0, 511, 1, 0, 0);
        end.poke(0, 0, Op.load(1, 0, 1));
        end.window(0, 1);
        end.seal();
        end.step(1);
        faulted(check, "a word behind memory's end", end, 0, 2);
    }

    /** Of 0: channel 1 leads to 1, 2 comes from 1, 3 is of others, 6 leads to 2. */
    private static PartitionKernel amongChannels(int op, int c) {
        PartitionKernel x = new PartitionKernel();
        for (int p = 0; p < 3; p++) {
            x.partition(p, p * 8, 8, 0, 0);
        }
        x.channel(1, 0, 1, 0);
        x.channel(2, 1, 0, 3);
        x.channel(3, 1, 2, 3);
        x.channel(6, 0, 2, 1);
        Check.put(x, 0, Op.word(op, 1, 2, c));
        x.window(0, 1);
        x.seal();
        x.step(1);
        return x;
    }

    private static void sendFaults(Check check) {
        for (int c : new int[] {0, 2, 3, 7, 8, -1, 257, (1 << 23) - 1, -(1 << 23)}) {
            PartitionKernel x = amongChannels(11, c);
            for (int k : new int[] {1, 2, 3, 6}) {
                check.hasRow("that nothing came by", x, k, 0, 0, 0, 0, 0);
            }
            faulted(check, "sending by channel " + c, x, 0, 3);
        }
        for (int c : new int[] {1, 6}) {
            check.due("sending by its own channel " + c, amongChannels(11, c).told(0, 9), 0);
        }
    }

    private static void takeFaults(Check check) {
        for (int c : new int[] {0, 1, 3, 6, 7, 8, -1, 258, (1 << 23) - 1, -(1 << 23)}) {
            faulted(check, "taking from channel " + c, amongChannels(12, c), 0, 3);
        }
        check.due("taking from its own channel", amongChannels(12, 2).told(0, 9), 0);
    }

    private static void codeFault(Check check) {
        for (int w : new int[] {15, -1, 31, Op.word(15, 1, 2, 3), Check.HIGHEST}) {
            PartitionKernel x = Check.alone(4, 0, w);
            x.step(1);
            faulted(check, "word " + w, x, 0, 4);
        }
    }

    private static void nothingIsDone(Check check) {
        int[] failing = {Op.load(1, 2, 0), Op.store(1, 2, 0), Op.send(1, 2, 0), Op.take(1, 2, 0), Op.BAD};
        int[] faults = {2, 2, 3, 3, 4};
        for (int n = 0; n < failing.length; n++) {
            PartitionKernel x = Check.alone(8, 0, Op.set(1, 31), Op.set(2, 32), failing[n], 0, 0, 0, 0, 9);
            check.due("the fault's tick counts", x.step(9), 3);
            check.toldRow("behind fault " + faults[n], x, 0, 3, 2, 0, 31, 32, 0, 2, 0, faults[n], 1);
            check.due("its word", x.peek(0, 7), 9);
        }
    }

    private static PartitionKernel failing(int restarts) {
        PartitionKernel x = new PartitionKernel();
        x.partition(0, 0, 8, 2, restarts);
        Check.put(x, 0, 0, 0, Op.set(3, 5), Op.BAD);
        x.window(0, 1);
        x.seal();
        return x;
    }

    private static void restartsAreCounted(Check check) {
        for (int restarts : new int[] {0, 1, 2, 100}) {
            PartitionKernel x = failing(restarts);
            for (int n = 1; n <= restarts; n++) {
                x.step(2);
                check.due("restarts left", x.told(0, 7), restarts - n);
                check.due("faults", x.told(0, 9), n);
            }
            check.due("it has begun again each time", x.told(0, 0), 1);
            check.due("done so far", x.told(0, 6), restarts);
            check.due("the last time", x.step(50), 2);
            check.due("it may not once more", x.told(0, 0), 3);
            check.due("restarts left at last", x.told(0, 7), 0);
            check.due("all faults", x.told(0, 9), restarts + 1);
        }
    }

    private static void beginsAgain(Check check) {
        PartitionKernel x = new PartitionKernel();
        x.partition(0, 0, 8, 2, 1);
        Check.put(x, 0, 0, 0, Op.set(0, 5), Op.set(1, 6), Op.set(2, 7), Op.set(3, 8), Op.BAD);
        x.window(0, 1);
        x.seal();
        x.step(5);
        check.toldRow("that begins again", x, 0, 1, 2, 0, 0, 0, 0, 4, 0, 4, 1);
        x.step(4);
        check.toldRow("that went the same way", x, 0, 1, 6, 5, 6, 7, 8, 8, 0, 4, 1);
        PartitionKernel outside = new PartitionKernel();
        outside.partition(0, 0, 2, 1, 1);
        outside.poke(0, 1, Op.ifZero(0, -3));
        outside.window(0, 1);
        outside.seal();
        outside.step(2);
        check.toldRow("that was out of its region", outside, 0, 1, 1, 0, 0, 0, 0, 1, 0, 1, 1);
    }

    private static void memoryAndChannelsStay(Check check) {
        PartitionKernel x = new PartitionKernel();
        x.partition(0, 0, 8, 0, 1);
        x.partition(1, 8, 8, 0, 0);
        x.channel(0, 0, 1, 4);
        x.channel(1, 0, 1, 0);
        x.channel(2, 1, 0, 2);
        Check.put(x, 0, Op.set(1, 7), Op.store(1, 0, 6), Op.send(1, 2, 0), Op.send(1, 2, 1), Op.BAD);
        Check.put(x, 1, Op.set(0, 4), Op.send(0, 1, 2), Op.HALT);
        x.window(1, 2);
        x.window(0, 5);
        x.seal();
        x.step(7);
        check.due("it has begun again", x.told(0, 7), 0);
        check.due("memory", x.peek(0, 6), 7);
        check.due("its program", x.peek(0, 4), Op.BAD);
        check.hasRow("the queue from it", x, 0, 1, 7, 0, 1, 0);
        check.hasRow("the slot from it", x, 1, 1, 7, 1, 1, 0);
        check.hasRow("the queue to it", x, 2, 1, 4, 0, 1, 0);
    }

    private static void hasYielded(Check check) {
        PartitionKernel x = new PartitionKernel();
        x.partition(0, 0, 8, 0, 100);
        Check.put(x, 0, Op.set(0, 1), Op.BAD);
        x.window(0, 5);
        x.window(0, 3);
        x.window(PartitionKernel.NONE, 1);
        x.seal();
        int[] busy = {1, 1, 0, 0, 0, 1, 1, 0, 0};
        for (int t = 0; t < 18; t++) {
            check.due("tick " + t, x.step(1), busy[t % 9]);
        }
        check.due("a hundred restarts, and the last fault", x.step(5000), 2 * 101 - 8);
        check.due("state", x.told(0, 0), 3);
        check.due("faults", x.told(0, 9), 101);
        PartitionKernel last = Check.alone(8, 5, Op.BAD);
        check.due("in a window's last tick", last.step(4), 4);
    }

    private static void isFaulted(Check check) {
        PartitionKernel x = failing(0);
        x.step(2);
        check.toldRow("that is faulted", x, 0, 3, 3, 0, 0, 0, 5, 1, 0, 4, 1);
        check.due("no more", x.step(5000), 0);
        check.toldRow("that stays faulted", x, 0, 3, 3, 0, 0, 0, 5, 1, 0, 4, 1);
    }

    private static void othersGoOn(Check check) {
        for (int restarts : new int[] {0, 100}) {
            PartitionKernel x = new PartitionKernel();
            x.partition(0, 0, 8, 0, restarts);
            x.partition(1, 8, 8, 0, 0);
            Check.put(x, 0, Op.BAD);
            Check.put(x, 1, Op.count(1), Op.ifZero(0, -2));
            x.window(0, 2);
            x.window(1, 2);
            x.seal();
            check.due("the faults, and another one's instructions", x.step(8), restarts == 0 ? 5 : 6);
            check.toldRow("of the other one", x, 1, 1, 0, 0, 2, 0, 0, 4, 0, 0, 0);
        }
    }
}
