/** Promise 5: poke. */
final class PokeTest {
    public static void main(String[] args) {
        Check check = new Check();
        PartitionKernel x = new PartitionKernel();
        two(x);
        check.due("a new word", x.poke(0, 3, 77), 0);
        check.due("the word that was", x.poke(0, 3, Integer.MIN_VALUE), 77);
        check.due("the lowest word", x.poke(0, 3, Integer.MAX_VALUE), Integer.MIN_VALUE);
        check.due("the highest word", x.peek(0, 3), Integer.MAX_VALUE);
        check.due("its last word", x.poke(0, 7, 5), 0);
        check.due("the next region's first word", x.peek(1, 0), 0);
        check.due("another region's word 3", x.peek(1, 3), 0);
        wrongInputs(check);
        refusedWhenSealed(check);
        check.end();
    }

    private static void two(PartitionKernel x) {
        x.partition(0, 40, 8, 0, 0);
        x.partition(1, 48, 4, 0, 0);
    }

    private static void wrongInputs(Check check) {
        check.refused("not told", Check.ARGUMENT, PokeTest::two, x -> x.poke(2, 0, 1));
        check.refused("number -1", Check.ARGUMENT, PokeTest::two, x -> x.poke(-1, 0, 1));
        check.refused("number 6", Check.ARGUMENT, PokeTest::two, x -> x.poke(6, 0, 1));
        check.refused("not told, no word", Check.ARGUMENT, PokeTest::two, x -> x.poke(2, -1, 1));
        check.refused("word -1", Check.INDEX, PokeTest::two, x -> x.poke(1, -1, 1));
        check.refused("word 8 of 8", Check.INDEX, PokeTest::two, x -> x.poke(0, 8, 1));
        check.refused("word 4 of 4", Check.INDEX, PokeTest::two, x -> x.poke(1, 4, 1));
        check.refused("the highest", Check.INDEX, PokeTest::two, x -> x.poke(0, Integer.MAX_VALUE, 1));
        check.refused("the lowest", Check.INDEX, PokeTest::two, x -> x.poke(0, Integer.MIN_VALUE, 1));
    }

    private static void refusedWhenSealed(Check check) {
        Check.Call sealed = x -> {
            two(x);
            x.window(0, 1);
            x.seal();
        };
        check.refused("sealed", Check.STATE, sealed, x -> x.poke(0, 0, 1));
        check.refused("sealed, not told", Check.STATE, sealed, x -> x.poke(2, 0, 1));
        check.refused("sealed, no word", Check.STATE, sealed, x -> x.poke(0, 8, 1));
    }
}
