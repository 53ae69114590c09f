/** Promise 2: partition. */
final class PartitionTest {
    public static void main(String[] args) {
        Check check = new Check();
        check.sentence("A partition's region, entry, and how often it may restart.", PartitionTest::ordinary);
        check.sentence("IllegalStateException: sealed.", PartitionTest::whenSealed);
        check.sentence("there is no such number", PartitionTest::noSuchNumber);
        check.sentence("it is told already", PartitionTest::toldAlready);
        check.sentence("its region is not in memory", PartitionTest::notInMemory);
        check.sentence("(length 1 at least)", PartitionTest::lengthOneAtLeast);
        check.sentence("or shares a word", PartitionTest::sharesWord);
        check.sentence("entry is not in it", PartitionTest::entryNotInIt);
        check.sentence("or restarts not 0 to 100", PartitionTest::restartsOutOfRange);
        check.end();
    }

    private static void refused(Check check, String call, Check.Call refused) {
        check.refused(call, Check.ARGUMENT, Check::nothing, refused);
    }

    private static void accepted(Check check, String call, Check.Call accepted) {
        check.accepted(call, Check::nothing, accepted);
    }

    private static void ordinary(Check check) {
        PartitionKernel x = new PartitionKernel();
        for (int p = 5; p >= 0; p--) {
            x.partition(p, 80 * p + 3, 10 + p, 6 + p, 5 * p);
        }
        for (int p = 0; p < 6; p++) {
            check.toldRow("of six", x, p, 1, 6 + p, 0, 0, 0, 0, 0, 5 * p, 0, 0);
            int last = 9 + p;
            int number = p;
            x.poke(p, last, 44 + p);
            check.due("the word behind", Check.thrownBy(k -> k.peek(number, last + 1), x), "IndexOutOfBoundsException");
        }
        for (int p = 0; p < 6; p++) {
            check.due("its last word", x.peek(p, 9 + p), 44 + p);
        }
    }

    private static void whenSealed(Check check) {
        Check.Call sealed = x -> {
            x.partition(1, 100, 8, 0, 0);
            x.window(1, 1);
            x.seal();
        };
        check.refused("sealed", Check.STATE, sealed, x -> x.partition(0, 0, 8, 0, 0));
        check.refused("sealed, no such number", Check.STATE, sealed, x -> x.partition(6, 0, 8, 0, 0));
        check.refused("sealed, told already", Check.STATE, sealed, x -> x.partition(1, 0, 8, 0, 0));
        check.refused("sealed, no region", Check.STATE, sealed, x -> x.partition(0, -1, 0, 0, 0));
        check.refused("sealed, a shared word", Check.STATE, sealed, x -> x.partition(0, 100, 8, 0, 0));
        check.refused("sealed, no entry", Check.STATE, sealed, x -> x.partition(0, 0, 8, 8, 0));
        check.refused("sealed, restarts 101", Check.STATE, sealed, x -> x.partition(0, 0, 8, 0, 101));
        check.refused("long sealed", Check.STATE, x -> {
            sealed.on(x);
            x.step(5000);
        }, x -> x.partition(0, 0, 8, 0, 0));
    }

    private static void noSuchNumber(Check check) {
        refused(check, "number -1", x -> x.partition(-1, 0, 8, 0, 0));
        refused(check, "number 6", x -> x.partition(6, 0, 8, 0, 0));
        refused(check, "the lowest number", x -> x.partition(Check.LOWEST, 0, 8, 0, 0));
        refused(check, "the highest number", x -> x.partition(Check.HIGHEST, 0, 8, 0, 0));
        accepted(check, "number 0", x -> x.partition(0, 0, 8, 0, 0));
        accepted(check, "number 5", x -> x.partition(5, 0, 8, 0, 0));
    }

    private static void toldAlready(Check check) {
        for (int p = 0; p < 6; p++) {
            int number = p;
            Check.Call before = x -> x.partition(number, 0, 8, 3, 2);
            check.refused("elsewhere", Check.ARGUMENT, before, x -> x.partition(number, 100, 8, 0, 0));
            check.refused("just the same", Check.ARGUMENT, before, x -> x.partition(number, 0, 8, 3, 2));
        }
        check.accepted("a number that a refused call named", x -> Check.thrownBy(
                k -> k.partition(2, 0, 8, 8, 0), x), x -> x.partition(2, 0, 8, 7, 0));
    }

    private static void notInMemory(Check check) {
        refused(check, "base -1", x -> x.partition(0, -1, 8, 0, 0));
        refused(check, "base 512", x -> x.partition(0, 512, 1, 0, 0));
        refused(check, "one word too long", x -> x.partition(0, 505, 8, 0, 0));
        refused(check, "two words from the last", x -> x.partition(0, 511, 2, 0, 0));
        refused(check, "513 words", x -> x.partition(0, 0, 513, 0, 0));
        refused(check, "the longest", x -> x.partition(0, 0, Check.HIGHEST, 0, 0));
        refused(check, "a sum that wraps around", x -> x.partition(0, 511, Check.HIGHEST, 0, 0));
        refused(check, "the highest base", x -> x.partition(0, Check.HIGHEST, 1, 0, 0));
        refused(check, "the highest of both", x -> x.partition(0, Check.HIGHEST, Check.HIGHEST, 0, 0));
        refused(check, "the lowest base", x -> x.partition(0, Check.LOWEST, Check.HIGHEST, 0, 0));
        accepted(check, "all memory", x -> x.partition(0, 0, 512, 511, 0));
        accepted(check, "the last 8 words", x -> x.partition(0, 504, 8, 0, 0));
        PartitionKernel x = new PartitionKernel();
        x.partition(0, 0, 512, 0, 0);
        check.due("the last word of memory", x.poke(0, 511, 3) + x.peek(0, 511), 3);
    }

    private static void lengthOneAtLeast(Check check) {
        refused(check, "length 0", x -> x.partition(0, 0, 0, 0, 0));
        refused(check, "length 0 behind memory", x -> x.partition(0, 512, 0, 0, 0));
        refused(check, "length -1", x -> x.partition(0, 10, -1, 0, 0));
        refused(check, "the lowest length", x -> x.partition(0, 0, Check.LOWEST, 0, 0));
        refused(check, "the lowest length, far on", x -> x.partition(0, 511, Check.LOWEST, 0, 0));
        accepted(check, "the first word alone", x -> x.partition(0, 0, 1, 0, 0));
        accepted(check, "the last word alone", x -> x.partition(0, 511, 1, 0, 0));
    }

    private static void sharesWord(Check check) {
        Check.Call before = x -> x.partition(2, 100, 10, 0, 0);
        int[][] sharing = {{91, 10}, {109, 1}, {100, 10}, {102, 3}, {90, 40}, {100, 1}, {0, 512}, {109, 403}, {0, 101}};
        for (int[] region : sharing) {
            check.refused("sharing at " + region[0], Check.ARGUMENT, before,
                    x -> x.partition(1, region[0], region[1], 0, 0));
        }
        for (int p = 0; p < 6; p++) {
            int told = p;
            check.refused("sharing with " + p, Check.ARGUMENT, x -> x.partition(told, 100, 10, 0, 0),
                    x -> x.partition((told + 1) % 6, 105, 10, 0, 0));
        }
        check.accepted("just before", before, x -> x.partition(1, 0, 100, 0, 0));
        check.accepted("just behind", before, x -> x.partition(1, 110, 402, 0, 0));
        Check.Call gap = x -> {
            before.on(x);
            x.partition(4, 120, 10, 0, 0);
        };
        check.accepted("a gap that is filled", gap, x -> x.partition(3, 110, 10, 0, 0));
        check.refused("a gap and a word before", Check.ARGUMENT, gap, x -> x.partition(3, 109, 11, 0, 0));
        check.refused("a gap and a word behind", Check.ARGUMENT, gap, x -> x.partition(3, 110, 11, 0, 0));
        check.accepted("the region of a refused call", x -> Check.thrownBy(
                k -> k.partition(0, 0, 8, 8, 0), x), x -> x.partition(1, 0, 8, 0, 0));
    }

    private static void entryNotInIt(Check check) {
        refused(check, "entry -1", x -> x.partition(0, 0, 8, -1, 0));
        refused(check, "entry 8 of 8", x -> x.partition(0, 0, 8, 8, 0));
        refused(check, "entry 1 of 1", x -> x.partition(0, 0, 1, 1, 0));
        refused(check, "an entry counted from memory's start", x -> x.partition(0, 100, 8, 100, 0));
        refused(check, "the lowest entry", x -> x.partition(0, 0, 8, Check.LOWEST, 0));
        refused(check, "the highest entry", x -> x.partition(0, 0, 8, Check.HIGHEST, 0));
        for (int entry : new int[] {0, 7}) {
            PartitionKernel x = new PartitionKernel();
            x.partition(0, 100, 8, entry, 0);
            check.due("the place", x.told(0, 1), entry);
        }
    }

    private static void restartsOutOfRange(Check check) {
        refused(check, "restarts -1", x -> x.partition(0, 0, 8, 0, -1));
        refused(check, "restarts 101", x -> x.partition(0, 0, 8, 0, 101));
        refused(check, "the lowest restarts", x -> x.partition(0, 0, 8, 0, Check.LOWEST));
        refused(check, "the highest restarts", x -> x.partition(0, 0, 8, 0, Check.HIGHEST));
        for (int restarts : new int[] {0, 1, 100}) {
            PartitionKernel x = new PartitionKernel();
            x.partition(0, 0, 8, 0, restarts);
            check.due("restarts left", x.told(0, 7), restarts);
        }
    }
}
