/** Promise 13: ticks. */
final class TicksTest {
    public static void main(String[] args) {
        Check check = new Check();
        PartitionKernel x = new PartitionKernel();
        check.due("of a new object", x.ticks(), 0);
        x.partition(0, 0, 4, 0, 0);
        x.window(0, 7);
        x.window(PartitionKernel.NONE, 3);
        check.due("before the seal", x.ticks(), 0);
        Check.thrownBy(k -> k.step(4), x);
        x.seal();
        check.due("behind the seal and a refused step", x.ticks(), 0);
        x.step(0);
        check.due("behind step(0)", x.ticks(), 0);
        x.step(1);
        check.due("behind step(1)", x.ticks(), 1);
        x.step(30);
        check.due("idle ones, too", x.ticks(), 31);
        x.step(5000);
        check.due("many", x.ticks(), 5031);
        Check.thrownBy(k -> k.step(5001), x);
        check.due("behind another refused step", x.ticks(), 5031);
        check.end();
    }
}
