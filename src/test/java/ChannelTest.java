/** Promise 4: channel. */
final class ChannelTest {
    public static void main(String[] args) {
        Check check = new Check();
        accepted(check);
        wrongInputs(check);
        refusedWhenSealed(check);
        check.end();
    }

    private static void two(PartitionKernel x) {
        x.partition(0, 0, 8, 0, 0);
        x.partition(1, 8, 8, 0, 0);
    }

    private static void accepted(Check check) {
        for (int room = 0; room <= 8; room++) {
            int words = room;
            check.accepted("room " + room, ChannelTest::two, x -> x.channel(0, 0, 1, words));
        }
        check.accepted("number 7", ChannelTest::two, x -> x.channel(7, 1, 0, 1));
        PartitionKernel x = new PartitionKernel();
        two(x);
        x.channel(3, 0, 1, 4);
        x.channel(4, 0, 1, 0);
        for (int what = 0; what < 5; what++) {
            check.due("a new queue's " + what, x.has(3, what), 0);
            check.due("a new slot's " + what, x.has(4, what), 0);
        }
        check.accepted("a number that a refused call named", k -> {
            two(k);
            Check.thrownBy(r -> r.channel(0, 0, 0, 1), k);
        }, k -> k.channel(0, 1, 0, 1));
    }

    private static void refused(Check check, String call, Check.Call refused) {
        check.refused(call, Check.ARGUMENT, ChannelTest::two, refused);
    }

    private static void wrongInputs(Check check) {
        refused(check, "number -1", x -> x.channel(-1, 0, 1, 1));
        refused(check, "number 8", x -> x.channel(8, 0, 1, 1));
        refused(check, "from not told", x -> x.channel(0, 2, 1, 1));
        refused(check, "to not told", x -> x.channel(0, 0, 2, 1));
        refused(check, "from -1", x -> x.channel(0, -1, 1, 1));
        refused(check, "to -1", x -> x.channel(0, 0, -1, 1));
        refused(check, "from 6", x -> x.channel(0, 6, 1, 1));
        refused(check, "to 6", x -> x.channel(0, 0, 6, 1));
        refused(check, "to itself", x -> x.channel(0, 1, 1, 1));
        refused(check, "room -1", x -> x.channel(0, 0, 1, -1));
        refused(check, "room 9", x -> x.channel(0, 0, 1, 9));
        refused(check, "extreme number", x -> x.channel(Integer.MIN_VALUE, 0, 1, 1));
        check.refused("told already", Check.ARGUMENT, x -> {
            two(x);
            x.channel(2, 0, 1, 3);
        }, x -> x.channel(2, 1, 0, 0));
    }

    private static void refusedWhenSealed(Check check) {
        Check.Call sealed = x -> {
            two(x);
            x.window(0, 1);
            x.seal();
        };
        check.refused("sealed", Check.STATE, sealed, x -> x.channel(0, 0, 1, 1));
        check.refused("sealed and wrong", Check.STATE, sealed, x -> x.channel(9, 0, 0, 9));
    }
}
