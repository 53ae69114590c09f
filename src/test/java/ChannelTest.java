/** Promise 4: channel. */
final class ChannelTest {
    public static void main(String[] args) {
        Check check = new Check();
        check.sentence("A channel from one partition to another one", ChannelTest::fromOneToAnother);
        check.sentence("a queue of up to room words", ChannelTest::upToRoomWords);
        check.sentence("or a slot (0)", ChannelTest::slot);
        check.sentence("IllegalStateException: sealed.", ChannelTest::whenSealed);
        check.sentence("there is no such number", ChannelTest::noSuchNumber);
        check.sentence("it is told already", ChannelTest::toldAlready);
        check.sentence("partitions are not told", ChannelTest::notTold);
        check.sentence("or the same", ChannelTest::theSame);
        check.sentence("or room is not 0 to 8", ChannelTest::roomOutOfRange);
        check.end();
    }

    private static void two(PartitionKernel x) {
        x.partition(0, 0, 16, 0, 0);
        x.partition(1, 16, 16, 0, 0);
    }

    private static void refused(Check check, String call, Check.Call refused) {
        check.refused(call, Check.ARGUMENT, ChannelTest::two, refused);
    }

    private static void fromOneToAnother(Check check) {
        PartitionKernel x = new PartitionKernel();
        two(x);
        for (int c = 0; c < 8; c++) {
            x.channel(c, c % 2, 1 - c % 2, c / 2);
            check.hasRow("of a new channel", x, c, 0, 0, 0, 0, 0);
        }
        Check.put(x, 0, Op.set(0, 50), Op.send(0, 1, 2), Op.set(0, 60), Op.send(0, 1, 6));
        Check.put(x, 1, Op.take(2, 3, 6), Op.take(1, 3, 2), Op.send(1, 3, 7));
        x.window(0, 4);
        x.window(1, 3);
        x.seal();
        x.step(7);
        check.due("no fault at its beginning", x.told(0, 9), 0);
        check.due("no fault at its end", x.told(1, 9), 0);
        check.due("taken of channel 6", x.told(1, 4), 60);
        check.due("taken of channel 2", x.told(1, 3), 50);
        check.hasRow("that it came by", x, 2, 0, 0, 0, 1, 0);
        check.hasRow("the other way", x, 7, 1, 50, 0, 1, 0);
        check.hasRow("that nothing came by", x, 0, 0, 0, 0, 0, 0);
    }

    private static void upToRoomWords(Check check) {
        for (int room = 1; room <= 8; room++) {
            PartitionKernel x = Check.pair(room, new int[] {Op.send(0, 1, 5), Op.ifZero(3, -2)}, new int[] {0});
            for (int n = 1; n <= 10; n++) {
                x.step(4);
                check.due("words, room " + room, x.has(5, 0), Math.min(n, room));
                check.due("rb, room " + room, x.told(0, 3), n <= room ? 1 : 0);
                check.due("came, room " + room, x.has(5, 3), Math.min(n, room));
                check.due("did not, room " + room, x.has(5, 4), Math.max(0, n - room));
            }
        }
    }

    private static void slot(Check check) {
        int[] sender = {Op.count(0), Op.send(0, 1, 5), Op.ifZero(3, -3)};
        PartitionKernel x = Check.pair(0, sender, new int[] {0});
        for (int n = 1; n <= 10; n++) {
            x.step(6);
            check.hasRow("of a slot that was put over", x, 5, 1, 3 * (n - 1), 3, n, 0);
            check.due("rb", x.told(0, 3), 1);
        }
    }

    private static void whenSealed(Check check) {
        Check.Call sealed = x -> {
            two(x);
            x.channel(3, 0, 1, 1);
            x.window(0, 1);
            x.seal();
        };
        check.refused("sealed", Check.STATE, sealed, x -> x.channel(0, 0, 1, 1));
        check.refused("sealed, no such number", Check.STATE, sealed, x -> x.channel(8, 0, 1, 1));
        check.refused("sealed, told already", Check.STATE, sealed, x -> x.channel(3, 0, 1, 1));
        check.refused("sealed, not told", Check.STATE, sealed, x -> x.channel(0, 0, 2, 1));
        check.refused("sealed, the same", Check.STATE, sealed, x -> x.channel(0, 0, 0, 1));
        check.refused("sealed, room 9", Check.STATE, sealed, x -> x.channel(0, 0, 1, 9));
    }

    private static void noSuchNumber(Check check) {
        for (int c : new int[] {-1, 8, Check.LOWEST, Check.HIGHEST}) {
            refused(check, "number " + c, x -> x.channel(c, 0, 1, 1));
        }
        check.accepted("number 0", ChannelTest::two, x -> x.channel(0, 0, 1, 1));
        check.accepted("number 7", ChannelTest::two, x -> x.channel(7, 0, 1, 1));
    }

    private static void toldAlready(Check check) {
        for (int c = 0; c < 8; c++) {
            int number = c;
            for (int room : new int[] {0, 3}) {
                Check.Call before = x -> {
                    two(x);
                    x.channel(number, 0, 1, room);
                };
                check.refused("just the same", Check.ARGUMENT, before, x -> x.channel(number, 0, 1, room));
                check.refused("the other way", Check.ARGUMENT, before, x -> x.channel(number, 1, 0, 3 - room));
            }
        }
        check.accepted("a number that a refused call named", x -> {
            two(x);
            Check.thrownBy(k -> k.channel(0, 0, 0, 1), x);
        }, x -> x.channel(0, 1, 0, 1));
    }

    private static void notTold(Check check) {
        for (int p : new int[] {-1, 2, 5, 6, Check.LOWEST, Check.HIGHEST}) {
            refused(check, "from " + p, x -> x.channel(0, p, 1, 1));
            refused(check, "to " + p, x -> x.channel(0, 0, p, 1));
            refused(check, "from and to " + p, x -> x.channel(0, p, p, 1));
        }
    }

    private static void theSame(Check check) {
        refused(check, "0 to 0", x -> x.channel(0, 0, 0, 1));
        refused(check, "1 to 1", x -> x.channel(0, 1, 1, 1));
        refused(check, "a slot, 1 to 1", x -> x.channel(0, 1, 1, 0));
    }

    private static void roomOutOfRange(Check check) {
        for (int room : new int[] {-1, 9, Check.LOWEST, Check.HIGHEST}) {
            refused(check, "room " + room, x -> x.channel(0, 0, 1, room));
        }
        for (int room = 0; room <= 8; room++) {
            int words = room;
            check.accepted("room " + room, ChannelTest::two, x -> x.channel(0, 0, 1, words));
        }
    }
}
