/** Promise 1: a new object. */
final class NewObjectTest {
    public static void main(String[] args) {
        Check check = new Check();
        check.sentence("Nothing is told", NewObjectTest::nothingIsTold);
        check.sentence("memory is 0", NewObjectTest::memoryIsZero);
        check.sentence("no seal", NewObjectTest::noSeal);
        check.sentence("PartitionKernel()", NewObjectTest::objectsAreApart);
        check.end();
    }

    private static void nothingIsTold(Check check) {
        PartitionKernel x = new PartitionKernel();
        for (int p = 0; p < 6; p++) {
            int number = p;
            check.toldRow("of a new object", x, p, 0, 0, 0, 0, 0, 0, 0, 0, 0, 0);
            check.refused("poke", Check.ARGUMENT, Check::nothing, k -> k.poke(number, 0, 1));
            check.refused("peek", Check.ARGUMENT, Check::nothing, k -> k.peek(number, 0));
            check.refused("window", Check.ARGUMENT, Check::nothing, k -> k.window(number, 1));
            check.refused("channel", Check.ARGUMENT, Check::nothing, k -> k.channel(0, number, 5 - number, 1));
        }
        for (int c = 0; c < 8; c++) {
            int number = c;
            check.refused("has", Check.ARGUMENT, Check::nothing, k -> k.has(number, 0));
            check.refused("queued", Check.ARGUMENT, Check::nothing, k -> k.queued(number, 0));
        }
        check.refused("seal without a window", Check.STATE, Check::nothing, k -> k.seal());
    }

    private static void memoryIsZero(Check check) {
        for (int half = 0; half < 2; half++) {
            PartitionKernel x = new PartitionKernel();
            x.partition(0, half * 256, 256, 0, 0);
            for (int i = 0; i < 256; i++) {
                check.due("peek(0, " + i + ") of half " + half, x.peek(0, i), 0);
            }
        }
    }

    private static void noSeal(Check check) {
        check.due("current()", new PartitionKernel().current(), PartitionKernel.NONE);
        check.due("ticks()", new PartitionKernel().ticks(), 0);
        check.refused("step", Check.STATE, Check::nothing, k -> k.step(1));
        check.refused("step(0)", Check.STATE, Check::nothing, k -> k.step(0));
        check.accepted("partition", Check::nothing, k -> k.partition(0, 0, 1, 0, 0));
        check.accepted("window", Check::nothing, k -> k.window(PartitionKernel.NONE, 1));
    }

    private static void objectsAreApart(Check check) {
        PartitionKernel x = new PartitionKernel();
        PartitionKernel before = new PartitionKernel();
        x.partition(0, 0, 4, 0, 0);
        x.partition(1, 4, 4, 0, 0);
        x.channel(0, 0, 1, 0);
        Check.put(x, 0, Op.send(0, 1, 0), 7);
        x.window(0, 1);
        x.seal();
        x.step(3);
        check.due("an object made before", Check.picture(before), Check.picture(new PartitionKernel()));
        before.partition(0, 0, 4, 0, 0);
        check.due("its word", before.peek(0, 1), 0);
        check.due("its windows", before.window(0, 2), 1);
    }
}
