/** What the tests share: counting wrong answers, refused calls, and words of programs. */
final class Check {
    interface Call {
        void on(PartitionKernel x);
    }

    static final Class<? extends RuntimeException> STATE = IllegalStateException.class;
    static final Class<? extends RuntimeException> ARGUMENT = IllegalArgumentException.class;
    static final Class<? extends RuntimeException> INDEX = IndexOutOfBoundsException.class;

    private int made;
    private int wrong;

    void due(String call, long got, long want) {
        made++;
        if (got != want) {
            tellWrong(call + " answered " + got + ", due is " + want);
        }
    }

    void due(String call, String got, String want) {
        made++;
        if (!got.equals(want)) {
            tellWrong(call + " answered " + got + ", due is " + want);
        }
    }

    /** The call throws just this class, and leaves nothing behind that later calls could tell. */
    void refused(String call, Class<? extends RuntimeException> want, Call before, Call refused) {
        PartitionKernel x = new PartitionKernel();
        PartitionKernel untouched = new PartitionKernel();
        before.on(x);
        before.on(untouched);
        due(call + " throws", thrownBy(refused, x), want.getSimpleName());
        due("what is seen behind " + call, picture(x), picture(untouched));
        due("what comes of it behind " + call, pictureLater(x), pictureLater(untouched));
    }

    void accepted(String call, Call before, Call accepted) {
        PartitionKernel x = new PartitionKernel();
        before.on(x);
        due(call + " throws", thrownBy(accepted, x), "nothing");
    }

    static String thrownBy(Call call, PartitionKernel x) {
        try {
            call.on(x);
            return "nothing";
        } catch (RuntimeException e) {
            return e.getClass().getSimpleName();
        }
    }

    /** A word of a program; i may be below 0. */
    static int word(int op, int a, int b, int i) {
        return op | a << 4 | b << 6 | i << 8;
    }

    static void put(PartitionKernel x, int p, int... words) {
        for (int i = 0; i < words.length; i++) {
            x.poke(p, i, words[i]);
        }
    }

    /** A sealed kernel whose partition 0 alone has a window, of 1 tick, and the program given. */
    static PartitionKernel alone(int length, int restarts, int... program) {
        PartitionKernel x = new PartitionKernel();
        x.partition(0, 100, length, 0, restarts);
        put(x, 0, program);
        x.window(0, 1);
        x.seal();
        return x;
    }

    /** Every answer that tells of the object without changing it; some 200 calls. */
    static String picture(PartitionKernel x) {
        StringBuilder seen = new StringBuilder();
        for (int p = 0; p < 6; p++) {
            for (int what = 0; what < 10; what++) {
                seen.append(x.told(p, what)).append(' ');
            }
            for (int i = 0; i < 6; i++) {
                seen.append(wordOrNone(x, p, i)).append(' ');
            }
        }
        for (int c = 0; c < 8; c++) {
            appendChannel(seen, x, c);
        }
        return seen.append(x.current()).append(' ').append(x.ticks()).toString();
    }

    private static String pictureLater(PartitionKernel x) {
        String sealed = thrownBy(k -> k.seal(), x);
        String went = thrownBy(k -> k.step(9), x);
        return sealed + " " + went + " " + picture(x);
    }

    private static String wordOrNone(PartitionKernel x, int p, int i) {
        try {
            return Integer.toString(x.peek(p, i));
        } catch (RuntimeException e) {
            return e.getClass().getSimpleName();
        }
    }

    private static void appendChannel(StringBuilder seen, PartitionKernel x, int c) {
        try {
            for (int what = 0; what < 5; what++) {
                seen.append(x.has(c, what)).append(' ');
            }
            for (int k = 0; k < 8; k++) {
                seen.append(x.queued(c, k)).append(' ');
            }
        } catch (IllegalArgumentException e) {
            seen.append("none ");
        }
    }

    private void tellWrong(String text) {
        wrong++;
        System.out.println(text);
    }

    void end() {
        System.out.println(made + " answers looked at, " + wrong + " wrong");
        if (wrong > 0 || made == 0) {
            System.exit(1);
        }
    }
}
