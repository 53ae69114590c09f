/** What the tests share: sentences of the document, wrong answers, refused calls, small kernels. */
final class Check {
    interface Call {
        void on(PartitionKernel x);
    }

    interface Answer {
        long of(PartitionKernel x);
    }

    interface Test {
        void by(Check check);
    }

    static final Class<? extends RuntimeException> STATE = IllegalStateException.class;
    static final Class<? extends RuntimeException> ARGUMENT = IllegalArgumentException.class;
    static final Class<? extends RuntimeException> INDEX = IndexOutOfBoundsException.class;

    static final int LOWEST = Integer.MIN_VALUE;
    static final int HIGHEST = Integer.MAX_VALUE;

    private int sentences;
    private int made;
    private int wrong;

    /** The test of one sentence of the document, which is named if it does not hold. */
    void sentence(String words, Test test) {
        int madeBefore = made;
        int wrongBefore = wrong;
        sentences++;
        try {
            test.by(this);
        } catch (RuntimeException e) {
            tellWrong("a call that is due throws " + e);
        }
        if (made == madeBefore || wrong > wrongBefore) {
            tellWrong("does not hold: \"" + words + "\"");
        }
    }

    void due(String call, long got, long want) {
        due(call, Long.toString(got), Long.toString(want));
    }

    void due(String call, String got, String want) {
        made++;
        if (!got.equals(want)) {
            tellWrong(call + " answered " + got + ", due is " + want);
        }
    }

    /** The call throws just this class, and leaves nothing behind that later calls could tell. */
    void refused(String call, Class<? extends RuntimeException> want, Call before, Call refused) {
        PartitionKernel x = new PartitionKernel();
        PartitionKernel untouched = new PartitionKernel();
        before.on(x);
        before.on(untouched);
        due(call + " throws", thrownBy(refused, x), want.getSimpleName());
        due("what is seen behind " + call, picture(x), picture(untouched));
        due("what comes of it behind " + call, pictureLater(x), pictureLater(untouched));
    }

    void accepted(String call, Call before, Call accepted) {
        PartitionKernel x = new PartitionKernel();
        before.on(x);
        due(call + " throws", thrownBy(accepted, x), "nothing");
    }

    static void nothing(PartitionKernel x) {
    }

    static String thrownBy(Call call, PartitionKernel x) {
        try {
            call.on(x);
            return "nothing";
        } catch (RuntimeException e) {
            return e.getClass().getSimpleName();
        }
    }

    static String answer(Answer answer, PartitionKernel x) {
        try {
            return Long.toString(answer.of(x));
        } catch (RuntimeException e) {
            return e.getClass().getSimpleName();
        }
    }

    static void put(PartitionKernel x, int p, int... words) {
        for (int i = 0; i < words.length; i++) {
            x.poke(p, i, words[i]);
        }
    }

    /** A sealed kernel whose partition 0 alone has a window, of 1 tick, and the program given. */
    static PartitionKernel alone(int length, int restarts, int... program) {
        PartitionKernel x = new PartitionKernel();
        x.partition(0, 100, length, 0, restarts);
        put(x, 0, program);
        x.window(0, 1);
        x.seal();
        return x;
    }

    /** A sealed kernel with channel 5 from 0 to 1, which have a tick each, by turns. */
    static PartitionKernel pair(int room, int[] sender, int[] taker) {
        PartitionKernel x = new PartitionKernel();
        x.partition(0, 0, 20, 0, 0);
        x.partition(1, 20, 20, 0, 0);
        put(x, 0, sender);
        put(x, 1, taker);
        x.channel(5, 0, 1, room);
        x.window(0, 1);
        x.window(1, 1);
        x.seal();
        return x;
    }

    /** All that told answers of a partition, in one go. */
    void toldRow(String when, PartitionKernel x, int p, int... want) {
        for (int what = 0; what < want.length; what++) {
            due("told(" + p + ", " + what + ") " + when, x.told(p, what), want[what]);
        }
    }

    /** All that has answers of a channel, in one go. */
    void hasRow(String when, PartitionKernel x, int c, int... want) {
        for (int what = 0; what < want.length; what++) {
            due("has(" + c + ", " + what + ") " + when, x.has(c, what), want[what]);
        }
    }

    void queuedRow(String when, PartitionKernel x, int c, int... want) {
        for (int k = 0; k < want.length; k++) {
            due("queued(" + c + ", " + k + ") " + when, x.queued(c, k), want[k]);
        }
    }

    /** Every answer that tells of the object without changing it; some 200 calls. */
    static String picture(PartitionKernel x) {
        StringBuilder seen = new StringBuilder();
        for (int p = 0; p < 6; p++) {
            int number = p;
            for (int what = 0; what < 10; what++) {
                seen.append(x.told(p, what)).append(' ');
            }
            for (int i = 0; i < 6; i++) {
                int at = i;
                seen.append(answer(k -> k.peek(number, at), x)).append(' ');
            }
        }
        for (int c = 0; c < 8; c++) {
            appendChannel(seen, x, c);
        }
        return seen.append(x.current()).append(' ').append(x.ticks()).toString();
    }

    /** What telling all that is free still, the seal and some ticks come to. */
    private static String pictureLater(PartitionKernel x) {
        StringBuilder seen = new StringBuilder();
        for (int p = 0; p < 6; p++) {
            int number = p;
            seen.append(thrownBy(k -> k.partition(number, 64 * number, 64, 5, 1), x)).append(' ');
        }
        for (int c = 0; c < 8; c++) {
            int number = c;
            seen.append(thrownBy(k -> k.channel(number, 5, 4, 1), x)).append(' ');
        }
        seen.append(answer(k -> k.window(PartitionKernel.NONE, 2), x)).append(' ');
        seen.append(answer(k -> k.seal(), x)).append(' ');
        seen.append(answer(k -> k.step(9), x)).append(' ');
        return seen.append(picture(x)).toString();
    }

    private static void appendChannel(StringBuilder seen, PartitionKernel x, int c) {
        try {
            for (int what = 0; what < 5; what++) {
                seen.append(x.has(c, what)).append(' ');
            }
            for (int k = 0; k < 8; k++) {
                seen.append(x.queued(c, k)).append(' ');
            }
        } catch (IllegalArgumentException e) {
            seen.append("none ");
        }
    }

    private void tellWrong(String text) {
        wrong++;
        System.out.println(text);
    }

    void end() {
        System.out.println(sentences + " sentences, " + made + " answers looked at, " + wrong + " wrong");
        if (wrong > 0 || made == 0) {
            System.exit(1);
        }
    }
}
