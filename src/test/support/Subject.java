import java.util.Arrays;

/**
 * An object of PropertyTests with terms made by name. Its calls are counted: nothing is promised after
 * the 512th, so a test that goes beyond would test nothing.
 */
final class Subject {
    static final int BAD = -1, FULL = -2, NONE_SUCH = Integer.MIN_VALUE;
    static final int MIN = Integer.MIN_VALUE, MAX = Integer.MAX_VALUE;
    static final int DROPPED = -1, HOLDS = 0, NULL = 1, INDEX = 2, SIZE = 3, KIND = 4, DIVISION = 5, ROOM = 6;
    static final int SPENT = 7, UNTHROWN = 8, FALSE = 9;
    static final int INPUT = 0, WHOLE = 1, NOTHING = 2, PLUS = 3, MINUS = 4, TIMES = 5, QUOTIENT = 6, REST = 7;
    static final int BELOW = 8, LIKE = 9, AT = 10, LENGTH = 11, ZEROS = 12, PUT = 13, JOIN = 14, PART = 15;
    static final int SORTED = 16, TURNED = 17, SUM = 18, IF = 19, BOTH = 20;
    static final int[] PART_COUNT = {0, 0, 0, 2, 2, 2, 2, 2, 2, 2, 2, 1, 1, 3, 2, 3, 1, 1, 1, 3, 2};

    private static final int MOST_CALLS = 512;

    private final PropertyTests x = new PropertyTests();
    private final int[] ones = new int[64];
    private int calls = 0;

    Subject() {
        Arrays.fill(ones, -1);
    }

    private void count() {
        calls++;
        Check.must("a test called one object more than 512 times", calls <= MOST_CALLS);
    }

    int term(int what, int a, int b, int c, int n) {
        count();
        return x.term(what, a, b, c, n);
    }

    int property(int first, int second, int third, int condition, int body, int label, int expected) {
        count();
        return x.property(first, second, third, condition, body, label, expected);
    }

    int run(int property, int n, int seed) {
        count();
        return x.run(property, n, seed);
    }

    int small(int property, int m) {
        count();
        return x.small(property, m);
    }

    int many(int property, int m) {
        count();
        return x.many(property, m);
    }

    int again() {
        count();
        return x.again();
    }

    int counter(int i, int k) {
        count();
        return x.counter(i, k);
    }

    int drawn(int seed, int c, int i, int type, int k) {
        count();
        return x.drawn(seed, c, i, type, k);
    }

    int told(int what) {
        count();
        return x.told(what);
    }

    int label(int l) {
        count();
        return x.label(l);
    }

    /** The test's own terms must all be taken, or it would test something else than it says. */
    private static int taken(int number) {
        Check.must("a term or property that the test rests on was refused", number >= 0);
        return number;
    }

    int input(int n) {
        return taken(term(INPUT, 0, 0, 0, n));
    }

    int whole(int n) {
        return taken(term(WHOLE, 0, 0, 0, n));
    }

    int nothing() {
        return taken(term(NOTHING, 0, 0, 0, 0));
    }

    int of(int what, int... parts) {
        int[] p = Arrays.copyOf(parts, 3);
        return taken(term(what, p[0], p[1], p[2], 0));
    }

    int not(int t) {
        return of(LIKE, t, whole(0));
    }

    /** Has 2 + 3 ints.length terms, and as many steps. */
    int row(int... ints) {
        int made = zeros(ints.length);
        for (int k = 0; k < ints.length; k++) {
            made = of(PUT, made, whole(k), whole(ints[k]));
        }
        return made;
    }

    int zeros(int length) {
        return of(ZEROS, whole(length));
    }

    int throwing(int number) {
        switch (number) {
            case NULL: return of(LENGTH, nothing());
            case INDEX: return of(AT, zeros(0), whole(0));
            case SIZE: return zeros(-1);
            case KIND: return of(LENGTH, whole(0));
            case DIVISION: return of(QUOTIENT, whole(1), whole(0));
            case ROOM: return zeros(17);
            default: return one(61);
        }
    }

    /** Comes to 1 in just as many steps: 1, 3 or more. */
    int one(int steps) {
        if (ones[steps] < 0) {
            ones[steps] = newOne(steps);
        }
        return ones[steps];
    }

    private int newOne(int steps) {
        if (steps == 1) {
            return whole(1);
        }
        if (steps == 4) {
            return of(LENGTH, of(TURNED, of(ZEROS, one(1))));
        }
        int first = steps % 2 == 0 ? 4 : (steps - 1) / 2 - (steps / 2 % 2 == 0 ? 1 : 0);
        return of(BOTH, one(first), one(steps - 1 - first));
    }

    int body(int body) {
        return taken(property(-1, -1, -1, -1, body, -1, 0));
    }

    int typed(int first, int second, int third, int body) {
        return taken(property(first, second, third, -1, body, -1, 0));
    }

    int plain(int condition, int body, int label, int expected) {
        return taken(property(-1, -1, -1, condition, body, label, expected));
    }

    /** The outcome of the one try that a property without inputs has. */
    int outcomeOf(int property) {
        Check.must("a try was refused", small(property, 0) >= 0);
        return told(2) == 1 ? DROPPED : told(3);
    }

    int outcome(int body) {
        return outcomeOf(body(body));
    }
}
