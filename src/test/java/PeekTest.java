/** Promise 6: peek. */
final class PeekTest {
    public static void main(String[] args) {
        Check check = new Check();
        PartitionKernel x = new PartitionKernel();
        two(x);
        check.due("the first word", x.peek(0, 0), 11);
        check.due("the last word", x.peek(0, 3), -14);
        check.due("another region's first", x.peek(1, 0), 21);
        check.due("once more", x.peek(0, 0), 11);
        x.window(PartitionKernel.NONE, 1);
        x.seal();
        check.due("behind the seal", x.peek(0, 3), -14);
        check.due("a word that a program puts", wordPutByProgram(), 9);
        wrongInputs(check, PeekTest::two);
        wrongInputs(check, k -> {
            two(k);
            k.window(0, 1);
            k.seal();
        });
        check.end();
    }

    private static void two(PartitionKernel x) {
        x.partition(0, 508, 4, 0, 0);
        x.partition(1, 500, 2, 0, 0);
        Check.put(x, 0, 11, 12, 13, -14);
        Check.put(x, 1, 21, 22);
    }

    private static int wordPutByProgram() {
        PartitionKernel x = Check.alone(8, 0, Check.word(1, 1, 0, 9), Check.word(7, 1, 0, 5));
        x.step(2);
        return x.peek(0, 5);
    }

    private static void wrongInputs(Check check, Check.Call before) {
        check.refused("not told", Check.ARGUMENT, before, x -> x.peek(2, 0));
        check.refused("number -1", Check.ARGUMENT, before, x -> x.peek(-1, 0));
        check.refused("number 6", Check.ARGUMENT, before, x -> x.peek(6, 0));
        check.refused("not told, no word", Check.ARGUMENT, before, x -> x.peek(2, 600));
        check.refused("word -1", Check.INDEX, before, x -> x.peek(0, -1));
        check.refused("word 4 of 4", Check.INDEX, before, x -> x.peek(0, 4));
        check.refused("word 2 of 2", Check.INDEX, before, x -> x.peek(1, 2));
        check.refused("the highest", Check.INDEX, before, x -> x.peek(0, Integer.MAX_VALUE));
        check.refused("the lowest", Check.INDEX, before, x -> x.peek(0, Integer.MIN_VALUE));
    }
}
