/** Terms: what each instruction does, seen one tick at a time. */
final class InstructionTest {
    private static final int HIGHEST_I = (1 << 23) - 1;
    private static final int LOWEST_I = -(1 << 23);

    public static void main(String[] args) {
        Check check = new Check();
        check.sentence("the word w at the partition's place", InstructionTest::wordAtPlace);
        check.sentence("which goes on by 1 first", InstructionTest::goesOnFirst);
        check.sentence("op w & 15, a w >> 4 & 3, b w >> 6 & 3, i w >> 8", InstructionTest::fields);
        check.sentence("0 it is halted.", InstructionTest::halts);
        check.sentence("1 ra is i.", InstructionTest::sets);
        check.sentence("2 ra is ra + rb", InstructionTest::adds);
        check.sentence("3 ra - rb", InstructionTest::subtracts);
        check.sentence("4 ra times rb", InstructionTest::multiplies);
        check.sentence("5 ra exclusive or rb.", InstructionTest::exclusiveOr);
        check.sentence("6 ra is the word at rb + i of its region", InstructionTest::loads);
        check.sentence("7 that word is ra", InstructionTest::stores);
        check.sentence("8 the place is i more, if ra is 0", InstructionTest::ifZero);
        check.sentence("9 i more, if ra is below 0", InstructionTest::ifBelow);
        check.sentence("10 the place is ra.", InstructionTest::goesTo);
        check.sentence("13 yields.", InstructionTest::yields);
        check.sentence("14 ra is how many instructions it has done (this one not counted).", InstructionTest::counts);
        check.end();
    }

    private static void wordAtPlace(Check check) {
        for (int entry : new int[] {0, 4, 7}) {
            PartitionKernel x = new PartitionKernel();
            x.partition(0, 504, 8, entry, 0);
            for (int i = 0; i < 8; i++) {
                x.poke(0, i, Op.set(2, 100 + i));
            }
            x.window(0, 1);
            x.seal();
            x.step(1);
            check.due("what the word at the entry sets", x.told(0, 4), 100 + entry);
        }
        PartitionKernel own = Check.alone(2, 0, Op.store(0, 0, 1), Op.BAD);
        check.due("a program writes the word that comes next", own.step(3), 2);
        check.due("which halts it", own.told(0, 0), 2);
    }

    private static void goesOnFirst(Check check) {
        PartitionKernel x = Check.alone(3, 0, Op.set(0, 1), Op.YIELD, Op.set(0, 2));
        for (int place = 1; place <= 3; place++) {
            x.step(1);
            check.due("place", x.told(0, 1), place);
        }
        check.due("its last word is no fault yet", x.told(0, 9), 0);
        PartitionKernel again = Check.alone(3, 0, Op.ifZero(0, -1));
        again.step(9);
        check.due("-1 more is the same place again", again.told(0, 1), 0);
        check.due("it goes on for ever", again.told(0, 6), 9);
    }

    /** Each op with all other bits set: a, b are 3, i is -1. */
    private static void fields(Check check) {
        int[] place = {1, 1, 1, 1, 1, 1, 0, 0, 0, 1, 0, 0, 0, 1, 1, 0};
        int[] r3 = {0, -1, 0, 0, 0, 0, 0, 0, 0, 0, 0, 0, 0, 0, 0, 0};
        int[] fault = {0, 0, 0, 0, 0, 0, 2, 2, 0, 0, 0, 3, 3, 0, 0, 4};
        for (int op = 0; op < 16; op++) {
            PartitionKernel x = Check.alone(4, 0, op | 0xFFFFFFF0);
            x.step(1);
            int state = op == 0 ? 2 : fault[op] > 0 ? 3 : 1;
            int done = fault[op] > 0 ? 0 : 1;
            check.toldRow("of op " + op + ", full", x, 0, state, place[op], 0, 0, 0, r3[op], done, 0, fault[op], 1 - done);
        }
        for (int a = 0; a < 4; a++) {
            for (int b = 0; b < 4; b++) {
                PartitionKernel x = Check.alone(8, 0, Op.set(0, 10), Op.set(1, 11), Op.set(2, 12), Op.set(3, 13),
                        Op.word(4, a, b, HIGHEST_I));
                x.step(5);
                for (int r = 0; r < 4; r++) {
                    check.due("r" + r + " of r" + a + " times r" + b, x.told(0, 2 + r),
                            r == a ? (10 + a) * (10 + b) : 10 + r);
                }
            }
        }
    }

    private static void halts(Check check) {
        PartitionKernel x = Check.alone(8, 3, Op.HALT, Op.set(0, 5));
        check.due("halt", x.step(1), 1);
        check.toldRow("behind it", x, 0, 2, 1, 0, 0, 0, 0, 1, 3, 0, 0);
        check.due("no more", x.step(5000), 0);
        check.toldRow("long behind it", x, 0, 2, 1, 0, 0, 0, 0, 1, 3, 0, 0);
        PartitionKernel empty = Check.alone(8, 0);
        check.due("memory that is 0", empty.step(9), 1);
    }

    private static void sets(Check check) {
        for (int a = 0; a < 4; a++) {
            for (int v : new int[] {0, 1, -1, 255, -256, HIGHEST_I, LOWEST_I}) {
                PartitionKernel x = Check.alone(4, 0, Op.set(a, 77), Op.word(1, a, 3 - a, v));
                x.step(2);
                for (int r = 0; r < 4; r++) {
                    check.due("r" + r + " when r" + a + " is " + v, x.told(0, 2 + r), r == a ? v : 0);
                }
            }
        }
    }

    /** r1 and r2 from memory, the instruction on them, and what r1 and r2 are then. */
    private static void compute(Check check, int op, int first, int second, int want) {
        PartitionKernel x = Check.alone(8, 0, Op.load(1, 0, 5), Op.load(2, 0, 6),
                Op.word(op, 1, 2, 77), 0, 0, first, second);
        x.step(3);
        check.due("op " + op + " of " + first + ", " + second, x.told(0, 3), want);
        check.due("its second register", x.told(0, 4), second);
        check.due("its place", x.told(0, 1), 3);
        check.due("its done", x.told(0, 6), 3);
    }

    /** r2 is v, and the instruction has r2 as both. */
    private static void computeSame(Check check, int op, int v, int want) {
        PartitionKernel x = Check.alone(8, 0, Op.set(2, v), Op.word(op, 2, 2, 0));
        x.step(2);
        check.due("op " + op + " of " + v + " and itself", x.told(0, 4), want);
    }

    private static void adds(Check check) {
        compute(check, 2, 5, 7, 12);
        compute(check, 2, 5, -5, 0);
        compute(check, 2, Check.HIGHEST, 1, Check.LOWEST);
        compute(check, 2, Check.LOWEST, -1, Check.HIGHEST);
        compute(check, 2, Check.LOWEST, Check.LOWEST, 0);
        computeSame(check, 2, 81, 162);
    }

    private static void subtracts(Check check) {
        compute(check, 3, 5, 7, -2);
        compute(check, 3, Check.LOWEST, 1, Check.HIGHEST);
        compute(check, 3, Check.HIGHEST, -1, Check.LOWEST);
        compute(check, 3, 0, Check.LOWEST, Check.LOWEST);
        computeSame(check, 3, 81, 0);
    }

    private static void multiplies(Check check) {
        compute(check, 4, 5, -7, -35);
        compute(check, 4, 5, 0, 0);
        compute(check, 4, 65536, 65536, 0);
        compute(check, 4, 65536, 65537, 65536);
        compute(check, 4, Check.LOWEST, -1, Check.LOWEST);
        compute(check, 4, Check.HIGHEST, Check.HIGHEST, 1);
        computeSame(check, 4, -9, 81);
    }

    private static void exclusiveOr(Check check) {
        compute(check, 5, 12, 10, 6);
        compute(check, 5, -1, 1, -2);
        compute(check, 5, Check.LOWEST, Check.HIGHEST, -1);
        computeSame(check, 5, 81, 0);
    }

    private static void loads(Check check) {
        PartitionKernel x = Check.alone(8, 0, Op.set(3, 9), Op.load(0, 3, -2), Op.load(1, 3, -9), Op.load(2, 2, 6),
                Op.load(3, 3, -3), 0, 66, 1234);
        x.step(2);
        check.due("its last word, 9 - 2", x.told(0, 2), 1234);
        x.step(1);
        check.due("its first word, 9 - 9", x.told(0, 3), Op.set(3, 9));
        x.step(1);
        check.due("0 + 6, ra and rb the same", x.told(0, 4), 66);
        check.due("rb stays", x.told(0, 5), 9);
        x.step(1);
        check.due("9 - 3, ra and rb the same", x.told(0, 5), 66);
        check.due("the word stays", x.peek(0, 6), 66);
    }

    private static void stores(Check check) {
        PartitionKernel x = Check.alone(8, 0, Op.set(3, 9), Op.set(1, 5), Op.store(1, 3, -2), Op.store(3, 3, -9),
                Op.store(3, 1, 1));
        x.step(3);
        check.due("its last word, 9 - 2", x.peek(0, 7), 5);
        x.step(1);
        check.due("its first word, ra and rb the same", x.peek(0, 0), 9);
        x.step(1);
        check.due("5 + 1", x.peek(0, 6), 9);
        check.toldRow("whose registers stay", x, 0, 1, 5, 0, 5, 0, 9, 5, 0, 0, 0);
    }

    private static int placeBehindJump(int op, int value, int by) {
        PartitionKernel x = Check.alone(40, 0, Op.load(2, 0, 30), Op.word(op, 2, 1, by), 0, 0, 0, 0, 0, 0, 0, 0,
                0, 0, 0, 0, 0, 0, 0, 0, 0, 0, 0, 0, 0, 0, 0, 0, 0, 0, 0, 0, value);
        x.step(2);
        return x.told(0, 1);
    }

    private static void ifZero(Check check) {
        check.due("0", placeBehindJump(8, 0, 30), 32);
        check.due("0, none more", placeBehindJump(8, 0, 0), 2);
        check.due("0, back", placeBehindJump(8, 0, -2), 0);
        for (int v : new int[] {1, -1, 256, Check.LOWEST, Check.HIGHEST}) {
            check.due(v + " is not 0", placeBehindJump(8, v, 30), 2);
        }
        check.due("as far on as may be", placeBehindJump(8, 0, HIGHEST_I), HIGHEST_I + 2);
        check.due("as far back as may be", placeBehindJump(8, 0, LOWEST_I), LOWEST_I + 2);
    }

    private static void ifBelow(Check check) {
        for (int v : new int[] {-1, -256, Check.LOWEST}) {
            check.due(v + " is below 0", placeBehindJump(9, v, 30), 32);
        }
        for (int v : new int[] {0, 1, Check.HIGHEST}) {
            check.due(v + " is not below 0", placeBehindJump(9, v, 30), 2);
        }
        check.due("back", placeBehindJump(9, -1, -2), 0);
        check.due("as far back as may be", placeBehindJump(9, -5, LOWEST_I), LOWEST_I + 2);
    }

    private static void goesTo(Check check) {
        for (int v : new int[] {0, 17, 39, 40, -1, Check.LOWEST, Check.HIGHEST}) {
            check.due("the place, no fault yet", placeBehindJump(10, v, 30), v);
        }
    }

    private static void yields(Check check) {
        PartitionKernel x = new PartitionKernel();
        x.partition(0, 0, 8, 0, 0);
        Check.put(x, 0, Op.YIELD, Op.set(0, 1));
        x.window(0, 3);
        x.seal();
        check.due("one of three ticks", x.step(3), 1);
        check.toldRow("that has yielded", x, 0, 1, 1, 0, 0, 0, 0, 1, 0, 0, 0);
        x.step(1);
        check.due("it goes on in its next window", x.told(0, 2), 1);
    }

    private static void counts(Check check) {
        PartitionKernel x = Check.alone(8, 1, Op.count(1), Op.word(14, 2, 3, 9), Op.YIELD, Op.count(3), Op.BAD);
        x.step(1);
        check.due("none before", x.told(0, 3), 0);
        x.step(3);
        check.due("one before", x.told(0, 4), 1);
        check.due("a yield counts", x.told(0, 5), 3);
        x.step(2);
        check.due("a faulted one does not, and a restart takes none away", x.told(0, 3), 4);
    }
}
