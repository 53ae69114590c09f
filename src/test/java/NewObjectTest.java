/** Promise 1: nothing is told; memory is 0; no seal. */
final class NewObjectTest {
    public static void main(String[] args) {
        Check check = new Check();
        nothingIsTold(check);
        memoryIsZero(check);
        objectsAreApart(check);
        check.end();
    }

    private static void nothingIsTold(Check check) {
        PartitionKernel x = new PartitionKernel();
        for (int p = 0; p < 6; p++) {
            for (int what = 0; what < 10; what++) {
                check.due("told(" + p + ", " + what + ")", x.told(p, what), 0);
            }
            int number = p;
            check.refused("peek", Check.ARGUMENT, k -> { }, k -> k.peek(number, 0));
        }
        for (int c = 0; c < 8; c++) {
            int number = c;
            check.refused("has", Check.ARGUMENT, k -> { }, k -> k.has(number, 0));
        }
        check.due("current()", x.current(), PartitionKernel.NONE);
        check.due("ticks()", x.ticks(), 0);
        check.refused("seal without a window", Check.STATE, k -> { }, k -> k.seal());
        check.refused("step without seal", Check.STATE, k -> { }, k -> k.step(1));
    }

    private static void memoryIsZero(Check check) {
        for (int half = 0; half < 2; half++) {
            PartitionKernel x = new PartitionKernel();
            x.partition(0, half * 256, 256, 0, 0);
            for (int i = 0; i < 256; i++) {
                check.due("peek(0, " + i + ") of a new object", x.peek(0, i), 0);
            }
        }
    }

    private static void objectsAreApart(Check check) {
        PartitionKernel x = new PartitionKernel();
        x.partition(0, 0, 4, 0, 0);
        x.poke(0, 0, 7);
        x.window(0, 1);
        x.seal();
        PartitionKernel y = new PartitionKernel();
        y.partition(0, 0, 4, 0, 0);
        check.due("another object's word", y.peek(0, 0), 0);
        check.due("another object's windows", y.window(0, 2), 1);
    }
}
