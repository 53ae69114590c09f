/** Promise 5: poke. */
final class PokeTest {
    public static void main(String[] args) {
        Check check = new Check();
        check.sentence("Word i of a region becomes v.", PokeTest::becomes);
        check.sentence("Answers what it was.", PokeTest::answersWhatItWas);
        check.sentence("IllegalStateException: sealed.", PokeTest::whenSealed);
        check.sentence("IllegalArgumentException: the partition is not told.", PokeTest::notTold);
        check.sentence("IndexOutOfBoundsException: there is no such word.", PokeTest::noSuchWord);
        check.end();
    }

    private static void three(PartitionKernel x) {
        x.partition(0, 40, 8, 0, 0);
        x.partition(1, 48, 4, 0, 0);
        x.partition(3, 511, 1, 0, 0);
    }

    private static void becomes(Check check) {
        int[] lengths = {8, 4, 0, 1};
        for (int p : new int[] {0, 1, 3}) {
            for (int i = 0; i < lengths[p]; i++) {
                PartitionKernel x = new PartitionKernel();
                three(x);
                x.poke(p, i, 77);
                int sum = 0;
                for (int q : new int[] {0, 1, 3}) {
                    for (int k = 0; k < lengths[q]; k++) {
                        sum += x.peek(q, k);
                    }
                }
                check.due("word " + i + " of " + p, x.peek(p, i), 77);
                check.due("all words, no other of which is another one", sum, 77);
            }
        }
    }

    private static void answersWhatItWas(Check check) {
        PartitionKernel x = new PartitionKernel();
        three(x);
        check.due("a new word", x.poke(0, 7, 77), 0);
        check.due("the word that was", x.poke(0, 7, Check.LOWEST), 77);
        check.due("the lowest word", x.poke(0, 7, Check.HIGHEST), Check.LOWEST);
        check.due("the highest word", x.poke(0, 7, -1), Check.HIGHEST);
        check.due("-1, which is no sign of failure", x.poke(0, 7, 0), -1);
        check.due("0 again", x.poke(0, 7, 0), 0);
        check.due("memory's last word", x.poke(3, 0, 6), 0);
        check.due("memory's last word again", x.poke(3, 0, 7), 6);
    }

    private static void whenSealed(Check check) {
        Check.Call sealed = x -> {
            three(x);
            x.window(0, 1);
            x.seal();
        };
        check.refused("sealed", Check.STATE, sealed, x -> x.poke(0, 0, 1));
        check.refused("sealed, not told", Check.STATE, sealed, x -> x.poke(2, 0, 1));
        check.refused("sealed, no such number", Check.STATE, sealed, x -> x.poke(6, 0, 1));
        check.refused("sealed, no such word", Check.STATE, sealed, x -> x.poke(0, 8, 1));
        check.refused("sealed, not told, no such word", Check.STATE, sealed, x -> x.poke(2, -1, 1));
    }

    private static void notTold(Check check) {
        for (int p : new int[] {2, 4, 5, -1, 6, Check.LOWEST, Check.HIGHEST}) {
            check.refused("poke(" + p + ", 0, 1)", Check.ARGUMENT, PokeTest::three, x -> x.poke(p, 0, 1));
            check.refused("poke(" + p + ", -1, 1)", Check.ARGUMENT, PokeTest::three, x -> x.poke(p, -1, 1));
        }
    }

    private static void noSuchWord(Check check) {
        int[][] none = {{0, -1}, {0, 8}, {0, 40}, {0, 511}, {1, -1}, {1, 4}, {3, -1}, {3, 1}, {3, 511},
            {0, Check.LOWEST}, {0, Check.HIGHEST}, {3, Check.HIGHEST}};
        for (int[] c : none) {
            check.refused("poke(" + c[0] + ", " + c[1] + ", 1)", Check.INDEX, PokeTest::three,
                    x -> x.poke(c[0], c[1], 1));
        }
    }
}
