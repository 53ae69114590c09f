/** What it is, and Terms: programs are kept apart, and an object serves 512 calls. */
final class ApartTest {
    public static void main(String[] args) {
        Check check = new Check();
        check.sentence("PARTITIONS 0 .. 5", ApartTest::sixPartitions);
        check.sentence("CHANNELS 0 .. 7", ApartTest::eightChannels);
        check.sentence("a REGION of the 512 words of memory (no two share a word)", ApartTest::regionsApart);
        check.sentence("four registers", ApartTest::registersApart);
        check.sentence("a PLACE (of an instruction, in its region from 0 on)", ApartTest::placesApart);
        check.sentence("and hears of others through channels that were told beforehand, and through nothing else",
                ApartTest::hearsThroughNothingElse);
        check.sentence("An object is used for at most 512 calls after it has been made", ApartTest::longLife);
        check.end();
    }

    /** Six regions that fill memory, and a window of one tick for each. */
    private static PartitionKernel six(int... program) {
        PartitionKernel x = new PartitionKernel();
        int base = 0;
        for (int p = 0; p < 6; p++) {
            int length = p == 5 ? 512 - base : 60 + 10 * p;
            x.partition(p, base, length, 0, 0);
            Check.put(x, p, program);
            base += length;
            x.window(p, 1);
        }
        return x;
    }

    private static void sixPartitions(Check check) {
        PartitionKernel x = six(Op.set(0, 3));
        x.seal();
        check.due("each has its tick", x.step(6), 6);
        for (int p = 0; p < 6; p++) {
            check.toldRow("of six", x, p, 1, 1, 3, 0, 0, 0, 1, 0, 0, 0);
        }
        for (int p : new int[] {-1, 6}) {
            check.refused("partition", Check.ARGUMENT, Check::nothing, k -> k.partition(p, 0, 1, 0, 0));
            check.refused("channel from", Check.ARGUMENT, Check::nothing, k -> k.channel(0, p, 0, 1));
            check.refused("poke", Check.ARGUMENT, Check::nothing, k -> k.poke(p, 0, 0));
            check.refused("peek", Check.ARGUMENT, Check::nothing, k -> k.peek(p, 0));
            check.refused("told", Check.ARGUMENT, Check::nothing, k -> k.told(p, 0));
        }
        check.refused("window", Check.ARGUMENT, Check::nothing, k -> k.window(6, 1));
    }

    private static void eightChannels(Check check) {
        PartitionKernel x = six(Op.set(0, 3));
        for (int c = 0; c < 8; c++) {
            x.poke(0, c, Op.word(11, 0, 1, c));
            x.channel(c, 0, 1 + c % 5, c);
        }
        x.seal();
        x.step(48);
        for (int c = 0; c < 8; c++) {
            // What is sent is r0, a 0; channel 0 alone is a slot, and has an age.
            check.hasRow("of eight", x, c, 1, 0, c == 0 ? 47 : 0, 1, 0);
        }
        for (int c : new int[] {-1, 8}) {
            check.refused("has", Check.ARGUMENT, Check::nothing, k -> k.has(c, 0));
            check.refused("queued", Check.ARGUMENT, Check::nothing, k -> k.queued(c, 0));
        }
    }

    private static void regionsApart(Check check) {
        for (int p = 0; p < 6; p++) {
            PartitionKernel x = six(Op.HALT);
            int last = p == 5 ? 111 : 59 + 10 * p;
            Check.put(x, p, Op.set(0, 77), Op.store(0, 1, last), Op.store(0, 1, 0));
            x.seal();
            x.step(18);
            check.due("its first word", x.peek(p, 0), 77);
            check.due("its last word", x.peek(p, last), 77);
            for (int q = 0; q < 6; q++) {
                if (q != p) {
                    check.due("another one's first word", x.peek(q, 0), 0);
                    check.due("another one's last word", x.peek(q, q == 5 ? 111 : 59 + 10 * q), 0);
                }
            }
        }
    }

    private static void registersApart(Check check) {
        PartitionKernel x = six();
        for (int p = 0; p < 6; p++) {
            for (int r = 0; r < 4; r++) {
                x.poke(p, r, Op.set(r, 10 * p + r));
            }
        }
        x.seal();
        x.step(24);
        for (int p = 0; p < 6; p++) {
            check.toldRow("of six", x, p, 1, 4, 10 * p, 10 * p + 1, 10 * p + 2, 10 * p + 3, 4);
        }
    }

    private static void placesApart(Check check) {
        PartitionKernel x = six();
        for (int p = 0; p < 6; p++) {
            x.poke(p, 0, Op.ifZero(0, 7 * p));
        }
        x.seal();
        x.step(6);
        for (int p = 0; p < 6; p++) {
            check.due("place of " + p, x.told(p, 1), 1 + 7 * p);
        }
    }

    /** Partition 1 sees the same, whatever 0 does without a channel to it. */
    private static void hearsThroughNothingElse(Check check) {
        int[][] others = {{Op.HALT}, {Op.BAD}, {Op.YIELD, Op.ifZero(0, -2)}, {Op.set(0, 1), Op.ifZero(1, -2)},
            {Op.set(0, 9), Op.store(0, 1, 7), Op.ifZero(1, -3)}, {Op.store(0, 1, 8)}, {Op.send(0, 1, 1)},
            {Op.take(0, 1, 1)}, {Op.send(0, 1, 0), Op.ifZero(2, -2)}, {Op.ifZero(0, 8)}};
        String want = null;
        for (int[] other : others) {
            PartitionKernel x = new PartitionKernel();
            for (int p = 0; p < 3; p++) {
                x.partition(p, 8 * p, 8, 0, 1);
            }
            x.channel(0, 0, 2, 3);
            x.channel(1, 2, 1, 3);
            Check.put(x, 0, other);
            Check.put(x, 1, Op.count(0), Op.take(1, 2, 1), Op.store(0, 3, 6), Op.ifZero(3, -4));
            Check.put(x, 2, Op.set(0, 5), Op.send(0, 1, 1), Op.ifZero(3, -3));
            x.window(0, 3);
            x.window(1, 2);
            x.window(2, 1);
            x.seal();
            x.step(100);
            StringBuilder seen = new StringBuilder();
            for (int what = 0; what < 10; what++) {
                seen.append(x.told(1, what)).append(' ');
            }
            for (int i = 0; i < 8; i++) {
                seen.append(x.peek(1, i)).append(' ');
            }
            want = want == null ? seen.toString() : want;
            check.due("what 1 sees of 0", seen.toString(), want);
        }
    }

    /** The 512 calls that have the most ticks: counts and ages stay right to the last one. */
    private static void longLife(Check check) {
        PartitionKernel x = new PartitionKernel();
        x.partition(0, 0, 8, 0, 0);
        x.partition(1, 8, 8, 0, 0);
        x.channel(0, 0, 1, 1);
        x.channel(1, 0, 1, 0);
        Check.put(x, 0, Op.send(0, 1, 1), Op.send(0, 1, 0), Op.ifZero(3, -2));
        x.window(0, 1);
        x.seal();
        int calls = 4 + 3 + 2;
        long busy = 0;
        while (calls < 512 - 5) {
            busy += x.step(5000);
            calls++;
        }
        int ticks = (512 - 5 - 9) * 5000;
        check.due("all ticks", x.ticks(), ticks);
        check.due("all had an instruction", busy, ticks);
        check.due("instructions done", x.told(0, 6), ticks);
        check.due("words that came by the queue", x.has(0, 3), 1);
        check.due("words that did not", x.has(0, 4), ticks / 2 - 1);
        check.due("the slot's age", x.has(1, 2), 1000000);
    }
}
