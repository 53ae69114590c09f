/** Promise 13: ticks. */
final class TicksTest {
    public static void main(String[] args) {
        Check check = new Check();
        check.sentence("Ticks that were done.", TicksTest::ticksDone);
        check.sentence("a call that throws changes nothing", TicksTest::refusedOnesDoNotCount);
        check.end();
    }

    private static void told(PartitionKernel x) {
        x.partition(0, 0, 4, 0, 0);
        x.window(0, 7);
        x.window(PartitionKernel.NONE, 3);
    }

    private static void ticksDone(Check check) {
        PartitionKernel x = new PartitionKernel();
        check.due("of a new object", x.ticks(), 0);
        told(x);
        check.due("before the seal", x.ticks(), 0);
        x.seal();
        check.due("behind the seal", x.ticks(), 0);
        x.step(0);
        check.due("behind step(0)", x.ticks(), 0);
        x.step(1);
        check.due("behind step(1)", x.ticks(), 1);
        x.step(30);
        check.due("those without an instruction, too", x.ticks(), 31);
        x.step(5000);
        check.due("many", x.ticks(), 5031);
    }

    private static void refusedOnesDoNotCount(Check check) {
        PartitionKernel x = new PartitionKernel();
        told(x);
        Check.thrownBy(k -> k.step(4), x);
        check.due("behind a step without seal", x.ticks(), 0);
        x.seal();
        x.step(6);
        Check.thrownBy(k -> k.step(5001), x);
        check.due("behind a step that is too large", x.ticks(), 6);
        Check.thrownBy(k -> k.step(-1), x);
        check.due("behind a step that is too small", x.ticks(), 6);
    }
}
