/** Promise 2: partition. */
final class PartitionTest {
    public static void main(String[] args) {
        Check check = new Check();
        ordinary(check);
        edges(check);
        wrongNumbers(check);
        wrongRegions(check);
        sharedWords(check);
        refusedWhenSealed(check);
        check.end();
    }

    private static void nothing(PartitionKernel x) {
    }

    private static void ordinary(Check check) {
        PartitionKernel x = new PartitionKernel();
        x.partition(3, 20, 10, 6, 5);
        check.due("state", x.told(3, 0), 1);
        check.due("place", x.told(3, 1), 6);
        check.due("restarts left", x.told(3, 7), 5);
        check.due("another one's state", x.told(2, 0), 0);
        x.poke(3, 9, 44);
        check.due("its last word", x.peek(3, 9), 44);
    }

    private static void edges(Check check) {
        check.accepted("number 0", PartitionTest::nothing, x -> x.partition(0, 0, 1, 0, 0));
        check.accepted("number 5", PartitionTest::nothing, x -> x.partition(5, 0, 1, 0, 0));
        check.accepted("all memory", PartitionTest::nothing, x -> x.partition(0, 0, 512, 511, 0));
        check.accepted("the last word", PartitionTest::nothing, x -> x.partition(0, 511, 1, 0, 0));
        check.accepted("restarts 100", PartitionTest::nothing, x -> x.partition(0, 0, 8, 7, 100));
    }

    private static void refused(Check check, String call, Check.Call refused) {
        check.refused(call, Check.ARGUMENT, PartitionTest::nothing, refused);
    }

    private static void wrongNumbers(Check check) {
        refused(check, "number -1", x -> x.partition(-1, 0, 8, 0, 0));
        refused(check, "number 6", x -> x.partition(6, 0, 8, 0, 0));
        refused(check, "entry -1", x -> x.partition(0, 0, 8, -1, 0));
        refused(check, "entry behind", x -> x.partition(0, 0, 8, 8, 0));
        refused(check, "restarts -1", x -> x.partition(0, 0, 8, 0, -1));
        refused(check, "restarts 101", x -> x.partition(0, 0, 8, 0, 101));
        refused(check, "extreme number", x -> x.partition(Integer.MIN_VALUE, 0, 8, 0, 0));
        check.refused("told already", Check.ARGUMENT, x -> x.partition(0, 0, 8, 0, 0),
                x -> x.partition(0, 100, 8, 0, 0));
    }

    private static void wrongRegions(Check check) {
        refused(check, "length 0", x -> x.partition(0, 0, 0, 0, 0));
        refused(check, "length -1", x -> x.partition(0, 10, -1, 0, 0));
        refused(check, "base -1", x -> x.partition(0, -1, 8, 0, 0));
        refused(check, "base 512", x -> x.partition(0, 512, 1, 0, 0));
        refused(check, "one word too long", x -> x.partition(0, 505, 8, 0, 0));
        refused(check, "513 words", x -> x.partition(0, 0, 513, 0, 0));
        refused(check, "a sum that wraps", x -> x.partition(0, 511, Integer.MAX_VALUE, 0, 0));
        refused(check, "a base that wraps", x -> x.partition(0, Integer.MAX_VALUE, 1, 0, 0));
        refused(check, "the lowest base", x -> x.partition(0, Integer.MIN_VALUE, Integer.MAX_VALUE, 0, 0));
        refused(check, "the lowest length", x -> x.partition(0, 0, Integer.MIN_VALUE, 0, 0));
    }

    private static void sharedWords(Check check) {
        Check.Call before = x -> x.partition(2, 100, 10, 0, 0);
        int[][] sharing = {{91, 10}, {109, 1}, {100, 10}, {102, 3}, {90, 40}, {100, 1}};
        for (int[] region : sharing) {
            check.refused("sharing at " + region[0], Check.ARGUMENT, before,
                    x -> x.partition(1, region[0], region[1], 0, 0));
        }
        for (int p = 0; p < 6; p++) {
            int told = p;
            check.refused("sharing with " + p, Check.ARGUMENT, x -> x.partition(told, 100, 10, 0, 0),
                    x -> x.partition((told + 1) % 6, 105, 10, 0, 0));
        }
        check.accepted("just before", before, x -> x.partition(1, 90, 10, 0, 0));
        check.accepted("just behind", before, x -> x.partition(1, 110, 10, 0, 0));
        check.accepted("its region after a refused call", x -> Check.thrownBy(
                k -> k.partition(0, 0, 8, 8, 0), x), x -> x.partition(1, 0, 8, 0, 0));
    }

    private static void refusedWhenSealed(Check check) {
        Check.Call sealed = x -> {
            x.window(PartitionKernel.NONE, 1);
            x.seal();
        };
        check.refused("sealed", Check.STATE, sealed, x -> x.partition(0, 0, 8, 0, 0));
        check.refused("sealed and wrong", Check.STATE, sealed, x -> x.partition(9, -1, 0, 0, 0));
    }
}
