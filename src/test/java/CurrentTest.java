/** Promise 12: current. */
final class CurrentTest {
    public static void main(String[] args) {
        Check check = new Check();
        PartitionKernel x = new PartitionKernel();
        check.due("of a new object", x.current(), PartitionKernel.NONE);
        x.partition(0, 0, 4, 0, 0);
        x.partition(5, 4, 4, 0, 0);
        Check.put(x, 5, 15);
        x.window(5, 2);
        x.window(PartitionKernel.NONE, 1);
        x.window(0, 1);
        x.window(5, 1);
        check.due("without seal", x.current(), PartitionKernel.NONE);
        x.seal();
        // Partition 0 halts and 5 is faulted at once: their windows stay theirs.
        int[] owners = {5, 5, PartitionKernel.NONE, 0, 5};
        for (int t = 0; t < 23; t++) {
            check.due("before tick " + t, x.current(), owners[t % 5]);
            x.step(1);
        }
        x.step(5000);
        check.due("behind many frames", x.current(), owners[23 % 5]);
        x.step(0);
        check.due("behind no tick", x.current(), owners[23 % 5]);
        check.end();
    }
}
