/** Promise 6: peek. */
final class PeekTest {
    public static void main(String[] args) {
        Check check = new Check();
        check.sentence("Word i of a region.", PeekTest::wordOfRegion);
        check.sentence("IllegalArgumentException: the partition is not told.", PeekTest::notTold);
        check.sentence("IndexOutOfBoundsException: there is no such word.", PeekTest::noSuchWord);
        check.end();
    }

    private static void two(PartitionKernel x) {
        x.partition(0, 508, 4, 0, 0);
        x.partition(1, 500, 2, 0, 0);
        Check.put(x, 0, 11, 12, 13, -14);
        Check.put(x, 1, Check.LOWEST, Check.HIGHEST);
    }

    private static void twoSealed(PartitionKernel x) {
        two(x);
        x.window(0, 1);
        x.seal();
    }

    private static void allWords(Check check, String when, PartitionKernel x) {
        int[] first = {11, 12, 13, -14};
        for (int i = 0; i < 4; i++) {
            check.due("peek(0, " + i + ") " + when, x.peek(0, i), first[i]);
        }
        check.due("peek(1, 0) " + when, x.peek(1, 0), Check.LOWEST);
        check.due("peek(1, 1) " + when, x.peek(1, 1), Check.HIGHEST);
    }

    private static void wordOfRegion(Check check) {
        PartitionKernel x = new PartitionKernel();
        two(x);
        allWords(check, "before the seal", x);
        allWords(check, "once more", x);
        x.window(PartitionKernel.NONE, 1);
        x.seal();
        x.step(7);
        allWords(check, "behind the seal", x);
        PartitionKernel program = Check.alone(8, 0, Op.set(1, 9), Op.store(1, 0, 5), Op.BAD);
        program.step(2);
        check.due("a word that a program puts", program.peek(0, 5), 9);
        program.step(1);
        check.due("that word when it is faulted", program.peek(0, 5), 9);
    }

    private static void notTold(Check check) {
        for (int p : new int[] {2, 5, -1, 6, Check.LOWEST, Check.HIGHEST}) {
            check.refused("peek(" + p + ", 0)", Check.ARGUMENT, PeekTest::two, x -> x.peek(p, 0));
            check.refused("peek(" + p + ", 512)", Check.ARGUMENT, PeekTest::two, x -> x.peek(p, 512));
            check.refused("sealed, peek(" + p + ", 0)", Check.ARGUMENT, PeekTest::twoSealed, x -> x.peek(p, 0));
        }
    }

    private static void noSuchWord(Check check) {
        int[][] none = {{0, -1}, {0, 4}, {1, -1}, {1, 2}, {1, 8}, {0, 508}, {0, Check.LOWEST}, {1, Check.HIGHEST}};
        for (int[] c : none) {
            String call = "peek(" + c[0] + ", " + c[1] + ")";
            check.refused(call, Check.INDEX, PeekTest::two, x -> x.peek(c[0], c[1]));
            check.refused("sealed, " + call, Check.INDEX, PeekTest::twoSealed, x -> x.peek(c[0], c[1]));
        }
    }
}
