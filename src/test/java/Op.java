/** Words of programs, by what the instruction does; i may be below 0. */
final class Op {
    static final int HALT = 0;
    static final int YIELD = 13;
    static final int BAD = 15;

    private Op() {
    }

    static int word(int op, int a, int b, int i) {
        return op | a << 4 | b << 6 | i << 8;
    }

    static int set(int a, int i) {
        return word(1, a, 0, i);
    }

    static int add(int a, int b) {
        return word(2, a, b, 0);
    }

    static int load(int a, int b, int i) {
        return word(6, a, b, i);
    }

    static int store(int a, int b, int i) {
        return word(7, a, b, i);
    }

    static int ifZero(int a, int i) {
        return word(8, a, 0, i);
    }

    static int ifBelow(int a, int i) {
        return word(9, a, 0, i);
    }

    static int goTo(int a) {
        return word(10, a, 0, 0);
    }

    static int send(int a, int b, int c) {
        return word(11, a, b, c);
    }

    static int take(int a, int b, int c) {
        return word(12, a, b, c);
    }

    static int count(int a) {
        return word(14, a, 0, 0);
    }
}
