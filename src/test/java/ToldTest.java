/** Promise 9: told. */
final class ToldTest {
    public static void main(String[] args) {
        Check check = new Check();
        everyAnswer(check);
        registersInOrder(check);
        notTold(check);
        wrongInputs(check);
        check.end();
    }

    private static void row(Check check, PartitionKernel x, int p, int... want) {
        for (int what = 0; what < want.length; what++) {
            check.due("told(" + p + ", " + what + ")", x.told(p, what), want[what]);
        }
    }

    private static void everyAnswer(Check check) {
        PartitionKernel x = new PartitionKernel();
        x.partition(4, 64, 16, 3, 2);
        Check.put(x, 4, 15, 0, 0, Check.word(1, 1, 0, -9), Check.word(1, 3, 0, 44), Check.word(6, 0, 3, 0));
        row(check, x, 4, 1, 3, 0, 0, 0, 0, 0, 2, 0, 0);
        x.window(4, 1);
        x.seal();
        row(check, x, 4, 1, 3, 0, 0, 0, 0, 0, 2, 0, 0);
        x.step(2);
        row(check, x, 4, 1, 5, 0, -9, 0, 44, 2, 2, 0, 0);
        x.step(1);
        row(check, x, 4, 1, 3, 0, 0, 0, 0, 2, 1, 2, 1);
        x.step(2);
        row(check, x, 4, 1, 5, 0, -9, 0, 44, 4, 1, 2, 1);
        x.step(4);
        row(check, x, 4, 3, 5, 0, -9, 0, 44, 6, 0, 2, 3);
    }

    private static void registersInOrder(Check check) {
        PartitionKernel x = Check.alone(8, 0, Check.word(1, 0, 0, 10), Check.word(1, 1, 0, 11),
                Check.word(1, 2, 0, 12), Check.word(1, 3, 0, 13), 0);
        x.step(5);
        row(check, x, 0, 2, 5, 10, 11, 12, 13, 5, 0, 0, 0);
        PartitionKernel last = Check.alone(8, 2, 15, 0);
        last.step(1);
        check.due("the last fault", last.told(0, 8), 4);
    }

    private static void notTold(Check check) {
        PartitionKernel x = Check.alone(8, 0, 0);
        x.step(3);
        for (int p = 1; p < 6; p++) {
            row(check, x, p, 0, 0, 0, 0, 0, 0, 0, 0, 0, 0);
        }
    }

    private static void wrongInputs(Check check) {
        Check.Call before = x -> {
            x.partition(0, 0, 8, 0, 0);
            x.window(0, 1);
        };
        check.refused("number -1", Check.ARGUMENT, before, x -> x.told(-1, 0));
        check.refused("number 6", Check.ARGUMENT, before, x -> x.told(6, 0));
        check.refused("what -1", Check.ARGUMENT, before, x -> x.told(0, -1));
        check.refused("what 10", Check.ARGUMENT, before, x -> x.told(0, 10));
        check.refused("what 10 of one not told", Check.ARGUMENT, before, x -> x.told(1, 10));
        check.refused("the highest", Check.ARGUMENT, before, x -> x.told(Integer.MAX_VALUE, Integer.MAX_VALUE));
        check.refused("the lowest", Check.ARGUMENT, before, x -> x.told(0, Integer.MIN_VALUE));
    }
}
