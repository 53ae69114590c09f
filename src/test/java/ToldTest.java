/** Promise 9: told. */
final class ToldTest {
    public static void main(String[] args) {
        Check check = new Check();
        check.sentence("its state (what = 0)", ToldTest::state);
        check.sentence("place (1)", ToldTest::place);
        check.sentence("registers 0 to 3 (2 to 5)", ToldTest::registers);
        check.sentence("instructions done, without faulted ones (6)", ToldTest::instructionsDone);
        check.sentence("restarts left (7)", ToldTest::restartsLeft);
        check.sentence("its last fault, 0 for none (8)", ToldTest::lastFault);
        check.sentence("faults (9)", ToldTest::faults);
        check.sentence("there is no such number", ToldTest::noSuchNumber);
        check.sentence("or another what", ToldTest::anotherWhat);
        check.sentence("(All 0 but for the state's, when it is not told.)", ToldTest::notTold);
        check.end();
    }

    private static void state(Check check) {
        PartitionKernel x = new PartitionKernel();
        for (int p = 0; p < 6; p++) {
            check.due("not told", x.told(p, 0), 0);
            x.partition(p, 8 * p, 8, 0, 0);
            check.due("told", x.told(p, 0), 1);
        }
        x.poke(0, 0, Op.HALT);
        x.poke(1, 0, Op.BAD);
        x.poke(2, 0, Op.YIELD);
        for (int p = 0; p < 3; p++) {
            x.window(p, 1);
        }
        x.seal();
        check.due("ready behind the seal", x.told(0, 0), 1);
        x.step(3);
        check.due("halted", x.told(0, 0), 2);
        check.due("faulted", x.told(1, 0), 3);
        check.due("ready, though it has yielded", x.told(2, 0), 1);
        check.due("ready without a window", x.told(5, 0), 1);
    }

    private static void place(Check check) {
        PartitionKernel x = new PartitionKernel();
        x.partition(4, 300, 16, 15, 2);
        x.poke(4, 15, Op.ifZero(0, -11));
        check.due("its entry, before the seal", x.told(4, 1), 15);
        x.window(4, 1);
        x.seal();
        check.due("its entry, behind the seal", x.told(4, 1), 15);
        x.step(1);
        check.due("from its region's start on", x.told(4, 1), 5);
        PartitionKernel out = Check.alone(4, 0, Op.load(0, 0, 3), Op.goTo(0), 0, Check.LOWEST);
        out.step(2);
        check.due("a place below 0", out.told(0, 1), Check.LOWEST);
    }

    private static void registers(Check check) {
        PartitionKernel x = Check.alone(8, 0, Op.set(3, 13), Op.load(2, 0, 7), Op.set(1, -11), Op.set(0, 10), 0, 0, 0,
                Check.LOWEST);
        check.toldRow("before its first tick", x, 0, 1, 0, 0, 0, 0, 0);
        x.step(1);
        check.toldRow("the last one set", x, 0, 1, 1, 0, 0, 0, 13);
        x.step(4);
        check.toldRow("all set", x, 0, 2, 5, 10, -11, Check.LOWEST, 13);
    }

    private static void instructionsDone(Check check) {
        PartitionKernel x = Check.alone(8, 1, Op.YIELD, Op.set(0, 1), Op.BAD);
        int[] done = {1, 2, 2, 3, 4, 4, 4};
        for (int t = 0; t < done.length; t++) {
            x.step(1);
            check.due("behind tick " + t, x.told(0, 6), done[t]);
        }
        PartitionKernel halting = Check.alone(8, 0, Op.HALT);
        halting.step(9);
        check.due("the halt is one", halting.told(0, 6), 1);
        PartitionKernel outside = Check.alone(1, 0, Op.YIELD);
        outside.step(9);
        check.due("one out of its region is none", outside.told(0, 6), 1);
    }

    private static void restartsLeft(Check check) {
        PartitionKernel x = Check.alone(8, 2, Op.BAD);
        int[] left = {2, 1, 0, 0, 0};
        for (int t = 0; t < left.length; t++) {
            check.due("before tick " + t, x.told(0, 7), left[t]);
            x.step(1);
        }
    }

    private static void lastFault(Check check) {
        PartitionKernel none = Check.alone(8, 2, Op.HALT);
        none.step(3);
        check.due("none", none.told(0, 8), 0);
        // It writes over its first word, so that it fails there in another way the next time.
        PartitionKernel x = Check.alone(8, 3, Op.ifZero(0, 0), Op.load(1, 0, 7), Op.store(1, 0, 0), Op.BAD, 0, 0, 0,
                Op.load(2, 0, 99));
        x.step(4);
        check.due("fault 4", x.told(0, 8), 4);
        x.step(1);
        check.due("then fault 2", x.told(0, 8), 2);
        x.step(0);
        check.due("it stays", x.told(0, 8), 2);
        PartitionKernel again = Check.alone(3, 3, Op.send(0, 0, 0));
        again.step(1);
        check.due("fault 3, behind a restart", again.told(0, 8), 3);
        again.step(9);
        check.due("fault 3, faulted", again.told(0, 8), 3);
        PartitionKernel outside = Check.alone(1, 1, Op.YIELD);
        outside.step(2);
        check.due("fault 1", outside.told(0, 8), 1);
        outside.step(1);
        check.due("it stays when the next one is done", outside.told(0, 8), 1);
    }

    private static void faults(Check check) {
        for (int restarts : new int[] {0, 1, 100}) {
            PartitionKernel x = Check.alone(8, restarts, Op.BAD);
            for (int n = 0; n <= restarts; n++) {
                check.due("faults", x.told(0, 9), n);
                x.step(1);
            }
            check.due("all faults", x.told(0, 9), restarts + 1);
            x.step(100);
            check.due("no more", x.told(0, 9), restarts + 1);
        }
    }

    private static void one(PartitionKernel x) {
        x.partition(0, 0, 8, 0, 0);
        x.window(0, 1);
    }

    private static void noSuchNumber(Check check) {
        for (int p : new int[] {-1, 6, Check.LOWEST, Check.HIGHEST}) {
            check.refused("told(" + p + ", 0)", Check.ARGUMENT, ToldTest::one, x -> x.told(p, 0));
            check.refused("told(" + p + ", 10)", Check.ARGUMENT, ToldTest::one, x -> x.told(p, 10));
            check.refused("told(" + p + ", 0), sealed", Check.ARGUMENT, x -> {
                one(x);
                x.seal();
            }, x -> x.told(p, 0));
        }
        check.accepted("told(5, 0)", ToldTest::one, x -> x.told(5, 0));
    }

    private static void anotherWhat(Check check) {
        for (int what : new int[] {-1, 10, Check.LOWEST, Check.HIGHEST}) {
            check.refused("told(0, " + what + ")", Check.ARGUMENT, ToldTest::one, x -> x.told(0, what));
            check.refused("told(1, " + what + "), not told", Check.ARGUMENT, ToldTest::one, x -> x.told(1, what));
        }
        for (int what = 0; what <= 9; what++) {
            int due = what;
            check.accepted("told(0, " + what + ")", ToldTest::one, x -> x.told(0, due));
        }
    }

    private static void notTold(Check check) {
        PartitionKernel x = new PartitionKernel();
        x.partition(1, 0, 8, 3, 5);
        Check.thrownBy(k -> k.partition(2, 8, 8, 9, 7), x);
        x.window(1, 1);
        for (int p : new int[] {0, 2, 3, 4, 5}) {
            check.toldRow("of one not told", x, p, 0, 0, 0, 0, 0, 0, 0, 0, 0, 0);
        }
        x.seal();
        x.step(3);
        for (int p : new int[] {0, 2, 3, 4, 5}) {
            check.toldRow("of one not told, behind the seal", x, p, 0, 0, 0, 0, 0, 0, 0, 0, 0, 0);
        }
    }
}
