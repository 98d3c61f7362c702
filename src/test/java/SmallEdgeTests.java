import java.util.ArrayList;
import java.util.Arrays;
import java.util.List;

/**
 * Each sentence of the document on ALL SMALL, THE COUNTER, again(), counter(), drawn(), told() and label()
 * that names an edge, at the edge and on either side of it.
 */
public final class SmallEdgeTests {
    private static final int BAD = Subject.BAD, FULL = Subject.FULL, NONE_SUCH = Subject.NONE_SUCH;
    private static final int MIN = Subject.MIN, MAX = Subject.MAX, FALSE = Subject.FALSE;
    private static final int[] WHOLES = {1, 3, 5, 7}, ROWS = {1, 4, 31, 400};

    public static void main(String[] args) {
        smallest();
        wholesInOrder();
        rowsInOrder();
        inputsInOrder();
        upToTheFirst();
        countedToo();
        howMany();
        above3000();
        roomForAllSmall();
        roomByAllNotByTried();
        nothingIsMadeSmaller();
        noCounter();
        counterOfTheLatest();
        againTries();
        againTo3000();
        counterInputs();
        counterInts();
        drawnNumbers();
        drawnInts();
        toldNumbers();
        toldBefore();
        toldOfTheLatest();
        labelNumbers();
        labelsOfTheLatest();
        newObject();
        Check.end();
    }

    private static void smallest() {
        Check.sentence("ALL SMALL of m (0 .. 3)");
        for (int m : new int[] {MIN, -2, -1, 4, 5, MAX}) {
            Subject s = new Subject();
            s.body(s.whole(1));
            Check.due("small of " + m, s.small(0, m), BAD);
            Check.due("many of " + m, s.many(0, m), BAD);
            Check.due("tries", s.told(10), 0);
        }
        for (int m = 0; m <= 3; m++) {
            Subject s = new Subject();
            s.typed(0, -1, -1, s.whole(1));
            Check.due("many of " + m, s.many(0, m), 2 * m + 1);
            Check.due("small of " + m, s.small(0, m), 1);
            Check.due("cases", s.told(0), 2 * m + 1);
            Check.due("held", s.told(1), 2 * m + 1);
            Check.due("tries", s.told(10), 2 * m + 1);
        }
    }

    private static int[] wholesOf(int m) {
        return Arrays.copyOf(new int[] {0, 1, -1, 2, -2, 3, -3}, 2 * m + 1);
    }

    /** By length; of one length by int 0 first, so the last int changes fastest. */
    private static List<int[]> rowsOf(int m) {
        List<int[]> all = new ArrayList<>();
        List<int[]> ofLength = new ArrayList<>();
        ofLength.add(new int[0]);
        for (int length = 0; length <= m; length++) {
            all.addAll(ofLength);
            List<int[]> longer = new ArrayList<>();
            for (int[] row : ofLength) {
                for (int v : wholesOf(m)) {
                    int[] more = Arrays.copyOf(row, length + 1);
                    more[length] = v;
                    longer.add(more);
                }
            }
            ofLength = longer;
        }
        return all;
    }

    private static List<int[]> valuesOf(int type, int m) {
        if (type == 1) {
            return rowsOf(m);
        }
        List<int[]> all = new ArrayList<>();
        if (type == -1) {
            all.add(new int[0]);
        } else {
            for (int v : wholesOf(m)) {
                all.add(new int[] {v});
            }
        }
        return all;
    }

    private static int likeInput(Subject s, int i, int type, int[] value) {
        if (type == -1) {
            return s.whole(1);
        }
        return s.of(Subject.LIKE, s.input(i), type == 0 ? s.whole(value[0]) : s.row(value));
    }

    private static void counterIs(Subject s, int i, int type, int[] value) {
        if (type == 0) {
            Check.due("input " + i, s.counter(i, -1), value[0]);
            Check.due("a whole has no ints", s.counter(i, 0), NONE_SUCH);
            return;
        }
        Check.due("input " + i, s.counter(i, -1), type == 1 ? value.length : NONE_SUCH);
        for (int k = 0; k < value.length; k++) {
            Check.due("int " + k + " of input " + i, s.counter(i, k), value[k]);
        }
        Check.due("beyond", s.counter(i, value.length), NONE_SUCH);
    }

    /** Fails just at these inputs, which must be the case of that number. */
    private static void failsAsCase(int[] types, int[][] values, int m, int number) {
        Subject s = new Subject();
        int like = s.of(Subject.BOTH, likeInput(s, 0, types[0], values[0]), likeInput(s, 1, types[1], values[1]));
        s.typed(types[0], types[1], types[2], s.not(s.of(Subject.BOTH, like, likeInput(s, 2, types[2], values[2]))));
        Check.due("all small", s.small(0, m), 0);
        Check.due("its case", s.told(4), number);
        Check.due("cases", s.told(0), number + 1);
        Check.due("tries", s.told(10), number + 1);
        for (int i = 0; i < 3; i++) {
            counterIs(s, i, types[i], values[i]);
        }
    }

    private static void inOrder(int m, int... types) {
        int number = 0;
        for (int[] first : valuesOf(types[0], m)) {
            for (int[] second : valuesOf(types[1], m)) {
                for (int[] third : valuesOf(types[2], m)) {
                    failsAsCase(types, new int[][] {first, second, third}, m, number);
                    number++;
                }
            }
        }
        Subject s = new Subject();
        s.typed(types[0], types[1], types[2], s.whole(1));
        Check.due("many", s.many(0, m), number);
    }

    private static void wholesInOrder() {
        Check.sentence("WHOLES 0, 1, -1, 2, -2, .. up to m, - m");
        for (int m = 0; m <= 3; m++) {
            inOrder(m, 0, -1, -1);
            inOrder(m, -1, 0, -1);
            inOrder(m, -1, -1, 0);
            Subject s = new Subject();
            int input = s.input(0);
            int beyond = s.of(Subject.BOTH, s.of(Subject.BELOW, s.whole(-m - 1), input), s.of(Subject.BELOW, input, s.whole(m + 1)));
            s.typed(0, -1, -1, beyond);
            Check.due("none beyond m", s.small(0, m), 1);
        }
    }

    private static void rowsInOrder() {
        Check.sentence("ROWS by length (0 .. m), of like ones by int 0, then 1, .., each in that order");
        for (int m = 0; m <= 3; m++) {
            inOrder(m, 1, -1, -1);
        }
        inOrder(2, -1, 1, -1);
        inOrder(2, -1, -1, 1);
    }

    private static void inputsInOrder() {
        Check.sentence("TRIED in order of INPUT 0, of like ones INPUT 1, ..");
        for (int first = -1; first <= 1; first++) {
            for (int second = -1; second <= 1; second++) {
                for (int third = -1; third <= 1; third++) {
                    inOrder(0, first, second, third);
                    inOrder(1, first, second, third);
                }
            }
        }
        inOrder(2, 0, -1, 1);
        inOrder(2, 1, 0, -1);
        inOrder(3, 0, 0, 0);
    }

    private static void upToTheFirst() {
        Check.sentence("up to the first with an OUTCOME above 0");
        Subject s = new Subject();
        int input = s.input(0);
        s.typed(0, -1, -1, s.of(Subject.QUOTIENT, s.whole(1), input));
        Check.due("0 throws", s.small(0, 3), 0);
        Check.due("its outcome", s.told(3), Subject.DIVISION);
        Check.due("cases", s.told(0), 1);
        s.typed(0, -1, -1, s.of(Subject.BELOW, s.whole(-3), input));
        Check.due("-3 is the last", s.small(1, 3), 0);
        Check.due("its case", s.told(4), 6);
        Check.due("held", s.told(1), 6);
        Check.due("not there with 2", s.small(1, 2), 1);
        Check.due("its case", s.told(4), -1);
        Check.due("its outcome", s.told(3), 0);
    }

    private static void countedToo() {
        Check.sentence("(DROPPED and LABELS counted, too)");
        Subject s = new Subject();
        int input = s.input(0);
        // -3 fails, other odd ones hold with their number as label, even ones are dropped.
        s.property(0, -1, -1, s.of(Subject.REST, input, s.whole(2)), s.of(Subject.BELOW, s.whole(-3), input), input, 0);
        Check.due("all small", s.small(0, 3), 0);
        int[] told = {7, 3, 3, FALSE, 6, 0, 0, 0};
        for (int what = 0; what < 8; what++) {
            Check.due("told(" + what + ")", s.told(what), told[what]);
        }
        int[] labels = {0, 1, 0, 1, 0, 0, 0, 0, 1};
        for (int l = 0; l <= 8; l++) {
            Check.due("label(" + l + ")", s.label(l), labels[l]);
        }
    }

    private static int manyOf(int type, int m) {
        return type == -1 ? 1 : type == 0 ? WHOLES[m] : ROWS[m];
    }

    private static void howMany() {
        Check.sentence("How many TRIES ALL SMALL of m would have at most (-2, if above 3000)");
        for (int first = -1; first <= 1; first++) {
            for (int second = -1; second <= 1; second++) {
                for (int third = -1; third <= 1; third++) {
                    for (int m = 0; m <= 3; m++) {
                        long all = (long) manyOf(first, m) * manyOf(second, m) * manyOf(third, m);
                        Subject s = new Subject();
                        int one = s.whole(1);
                        s.typed(first, second, third, one);
                        String call = first + ", " + second + ", " + third + " of " + m;
                        Check.due("many, " + call, s.many(0, m), all > 3000 ? -2 : (int) all);
                        Check.due("small, " + call, s.small(0, m), all > 3000 ? FULL : 1);
                        Check.due("tries, " + call, s.told(10), all > 3000 ? 0 : (int) all);
                        s.typed(first, second, third, s.whole(0));
                        Check.due("at most: many of what fails at once", s.many(1, m), all > 3000 ? -2 : (int) all);
                        s.property(first, second, third, s.whole(0), one, one, 0);
                        Check.due("many of what is dropped", s.many(2, m), all > 3000 ? -2 : (int) all);
                    }
                }
            }
        }
    }

    private static void above3000() {
        Check.sentence("(-2, if above 3000): whatever the TRIES so far");
        Subject s = withTries(2999);
        s.typed(1, 0, -1, 0);
        s.typed(1, 0, 0, 0);
        s.typed(1, 1, 0, 0);
        s.typed(1, 1, 1, 0);
        Check.due("many", s.many(1, 3), 2800);
        Check.due("many", s.many(2, 3), -2);
        Check.due("many", s.many(2, 2), 31 * 25);
        Check.due("many", s.many(3, 2), -2);
        Check.due("many", s.many(4, 3), -2);
        Check.due("many is no try", s.told(10), 2999);
        Check.due("one try more", s.small(0, 3), 1);
        Check.due("tries", s.told(10), 3000);
        Check.due("many", s.many(1, 3), 2800);
    }

    /** An object with as many tries by its property 0, which has no input and holds; its term 0 is 1. */
    private static Subject withTries(int tries) {
        Subject s = new Subject();
        s.body(s.whole(1));
        int made = 0;
        while (made < tries && made < 2800) {
            int n = Math.min(200, Math.min(tries, 2800) - made);
            Check.due("a run of " + n, s.run(0, n, 0), 1);
            made += n;
        }
        for (; made < tries; made++) {
            Check.due("one try", s.small(0, 0), 1);
        }
        Check.due("tries", s.told(10), tries);
        return s;
    }

    private static void roomForAllSmall() {
        Check.sentence("FULL: for ALL SMALL: TRIES so far, and as many as ALL SMALL has, would be above 3000");
        int[][] typesAndM = {{-1, -1, -1, 3, 1}, {0, -1, -1, 1, 3}, {0, -1, 0, 1, 9}, {1, -1, -1, 2, 31},
            {-1, 1, -1, 3, 400}, {0, 0, 0, 3, 343}, {1, 1, -1, 2, 961}, {1, 0, -1, 3, 2800}};
        for (int[] t : typesAndM) {
            for (int beyond = -1; beyond <= 2; beyond++) {
                if (3000 - t[4] + beyond > 3000) {
                    continue;
                }
                Subject s = withTries(3000 - t[4] + beyond);
                s.typed(t[0], t[1], t[2], 0);
                int cases = s.told(0);
                Check.due("small of " + t[4] + ", " + (3000 + beyond), s.small(1, t[3]), beyond > 0 ? FULL : 1);
                Check.due("cases", s.told(0), beyond > 0 ? cases : t[4]);
                Check.due("tries", s.told(10), 3000 + beyond - (beyond > 0 ? t[4] : 0));
                Check.due("a bad m is bad all the same", s.small(1, 4), BAD);
                Check.due("a bad property is bad all the same", s.small(2, t[3]), BAD);
            }
        }
        Subject s = withTries(3000);
        Check.due("one try", s.small(0, 0), FULL);
        Check.due("tries", s.told(10), 3000);
    }

    private static void roomByAllNotByTried() {
        Check.sentence("as many as ALL SMALL has: also where the first would fail");
        for (int tries = 2996; tries <= 2999; tries++) {
            Subject s = withTries(tries);
            int zero = s.whole(0);
            s.typed(0, -1, -1, zero);
            Check.due("small of 3 with " + tries, s.small(1, 1), tries <= 2997 ? 0 : FULL);
            Check.due("tries", s.told(10), tries <= 2997 ? tries + 1 : tries);
        }
    }

    private static void nothingIsMadeSmaller() {
        Check.sentence("THE COUNTER is what .. ALL SMALL ended with (7: 0 of ALL SMALL)");
        Subject s = new Subject();
        // 2 and -3 fail alike; 2 is the first, and 0 and 1, its candidates, are not tried again.
        int input = s.input(0);
        s.typed(0, -1, -1, s.not(s.of(Subject.PLUS, s.of(Subject.LIKE, input, s.whole(2)), s.of(Subject.LIKE, input, s.whole(-3)))));
        Check.due("all small", s.small(0, 3), 0);
        Check.due("the counter", s.counter(0, -1), 2);
        int[] told = {4, 3, 0, FALSE, 3, 0, 0, 0, 8, 1, 4};
        for (int what = 0; what <= 10; what++) {
            Check.due("told(" + what + ")", s.told(what), told[what]);
        }
        Check.due("a run made smaller has 7", s.run(0, 200, 1), 0);
        Check.due("told(7)", s.told(7), 1);
        Check.due("all small again", s.small(0, 3), 0);
        Check.due("told(5)", s.told(5), 0);
        Check.due("told(7)", s.told(7), 0);
    }

    private static void isNone(Subject s, String when) {
        for (int i = 0; i < 3; i++) {
            Check.due("counter(" + i + ", -1) " + when, s.counter(i, -1), NONE_SUCH);
            Check.due("counter(" + i + ", 0) " + when, s.counter(i, 0), NONE_SUCH);
        }
        int tries = s.told(10);
        Check.due("again() " + when, s.again(), -2);
        Check.due("that is no try", s.told(10), tries);
    }

    /** Property 0 fails for wholes from 2 on, 1 holds, 2 is dropped, 3 fails for rows from 2 ints on. */
    private static Subject four() {
        Subject s = new Subject();
        int one = s.whole(1);
        s.typed(0, -1, -1, s.of(Subject.BELOW, s.input(0), s.whole(2)));
        s.typed(0, 1, 0, one);
        s.property(0, 1, 0, s.whole(0), one, one, 0);
        s.typed(-1, 1, 0, s.of(Subject.BELOW, s.of(Subject.LENGTH, s.input(1)), s.whole(2)));
        return s;
    }

    private static void noCounter() {
        Check.sentence("none, if nothing failed");
        isNone(new Subject(), "of a new object");
        for (int failing = 0; failing < 2; failing++) {
            for (int holding = 0; holding < 5; holding++) {
                Subject s = four();
                isNone(s, "ahead of all");
                Check.due("one that fails", failing == 0 ? s.run(0, 200, 0) : s.small(0, 2), 0);
                Check.due("again", s.again(), FALSE);
                switch (holding) {
                    case 0: Check.due("a run that holds", s.run(1, 1, 0), 1); break;
                    case 1: Check.due("small that holds", s.small(1, 1), 1); break;
                    case 2: Check.due("a run that is dropped", s.run(2, 1, 0), 2); break;
                    case 3: Check.due("small that is dropped", s.small(2, 0), 1); break;
                    default: Check.due("small of what failed", s.small(0, 1), 1); break;
                }
                isNone(s, "behind " + holding);
            }
        }
    }

    private static void counterOfTheLatest() {
        Check.sentence("THE COUNTER is what the latest RUN ended with (made SMALLER), or ALL SMALL");
        Subject s = four();
        s.run(0, 200, 0);
        Check.due("a run", s.counter(0, -1), 2);
        Check.due("no input 1", s.counter(1, -1), NONE_SUCH);
        s.small(3, 3);
        Check.due("no input 0", s.counter(0, -1), NONE_SUCH);
        Check.due("two ints", s.counter(1, -1), 2);
        Check.due("a whole", s.counter(2, -1), 0);
        Check.due("again of the property it was for", s.again(), FALSE);
        s.small(0, 3);
        Check.due("all small", s.counter(0, -1), 2);
        Check.due("no input 1", s.counter(1, -1), NONE_SUCH);
        s.run(3, 200, 0);
        Check.due("two ints", s.counter(1, -1), 2);
        Check.due("made smaller", s.counter(1, 0), 0);
        Check.due("made smaller", s.counter(1, 1), 0);
        Check.due("made smaller", s.counter(2, -1), 0);
        // A term and a property that come later are none of the counter's.
        s.typed(0, 0, 0, s.whole(1));
        Check.due("again", s.again(), FALSE);
    }

    private static void againTries() {
        Check.sentence("nothing of it is counted, but as a TRY");
        Subject s = new Subject();
        int input = s.input(0);
        s.property(0, -1, -1, s.of(Subject.BELOW, s.whole(-9), input), s.of(Subject.BELOW, input, s.whole(2)), s.whole(4), 0);
        Check.due("all small", s.small(0, 3), 0);
        for (int i = 1; i <= 5; i++) {
            Check.due("again", s.again(), FALSE);
            int[] told = {4, 3, 0, FALSE, 3, 0, 0, 0, 6, 1, 4 + i};
            for (int what = 0; what <= 10; what++) {
                Check.due("told(" + what + ")", s.told(what), told[what]);
            }
            Check.due("labels", s.label(4), 3);
            Check.due("the counter", s.counter(0, -1), 2);
        }
        for (int k = 1; k <= 9; k++) {
            s = new Subject();
            s.plain(-1, k >= 8 ? s.whole(0) : s.throwing(k), -1, k == 8 ? 1 : 0);
            s.small(0, 0);
            Check.due("again of outcome " + k, s.again(), k);
            s.run(0, 1, 0);
            Check.due("again of outcome " + k, s.again(), k);
        }
    }

    private static void againTo3000() {
        Check.sentence("-2: there is none; -3: 3000 TRIES were");
        Subject s = withTries(2996);
        s.body(s.whole(0));
        Check.due("one that fails", s.small(1, 0), 0);
        for (int tries = 2998; tries <= 3000; tries++) {
            Check.due("again", s.again(), FALSE);
            Check.due("tries", s.told(10), tries);
        }
        for (int i = 0; i < 3; i++) {
            Check.due("no more", s.again(), -3);
            Check.due("tries", s.told(10), 3000);
            Check.due("its outcome", s.told(3), FALSE);
        }
        s = withTries(2999);
        s.body(s.whole(0));
        Check.due("the last try fails", s.small(1, 0), 0);
        Check.due("no more", s.again(), -3);
        for (int tries = 2999; tries <= 3000; tries++) {
            s = withTries(tries);
            Check.due("none, with " + tries, s.again(), -2);
            Check.due("tries", s.told(10), tries);
        }
    }

    private static Subject counted(int... row) {
        Subject s = new Subject();
        s.typed(-1, 1, 0, s.not(s.of(Subject.LIKE, s.input(1), s.row(row))));
        Check.due("all small", s.small(0, 3), 0);
        return s;
    }

    private static void counterInputs() {
        Check.sentence("INPUT i of THE COUNTER: BAD_INPUT: none such");
        Subject s = counted(1, 2, 3);
        for (int k : new int[] {MIN, -2, -1, 0, 1, 2, 3, MAX}) {
            for (int i : new int[] {MIN, -2, -1, 3, 4, MAX}) {
                Check.due("counter(" + i + ", " + k + ")", s.counter(i, k), NONE_SUCH);
            }
            Check.due("no input 0", s.counter(0, k), NONE_SUCH);
        }
        Check.due("input 1", s.counter(1, -1), 3);
        Check.due("input 2", s.counter(2, -1), 0);
    }

    private static void counterInts() {
        Check.sentence("k = -1: a WHOLE's number, a ROW's length; k 0 and more: int k of a ROW");
        int[][] rows = {{}, {2}, {-1, 2}, {3, -2, 1}};
        for (int[] row : rows) {
            Subject s = counted(row);
            Check.due("length", s.counter(1, -1), row.length);
            for (int k = 0; k < row.length; k++) {
                Check.due("int " + k, s.counter(1, k), row[k]);
            }
            for (int k : new int[] {MIN, -3, -2, row.length, row.length + 1, 15, 16, 17, MAX}) {
                Check.due("int " + k, s.counter(1, k), NONE_SUCH);
            }
            for (int k : new int[] {MIN, -2, 0, 1, 16, MAX}) {
                Check.due("a whole's " + k, s.counter(2, k), NONE_SUCH);
            }
            Check.due("a whole", s.counter(2, -1), 0);
        }
        // A row that a longer one was made into: the longer one's last ints are none of its.
        Subject s = four();
        s.run(3, 200, 5);
        Check.due("length", s.counter(1, -1), 2);
        Check.due("no int 2", s.counter(1, 2), NONE_SUCH);
    }

    private static void drawnNumbers() {
        Check.sentence("INPUT i of CASE c (0 .. 199) of a seed, by a TYPE (0, 1)");
        Subject s = new Subject();
        for (int c : new int[] {MIN, -12, -1, 200, 201, 1000, MAX}) {
            Check.due("case " + c, s.drawn(1, c, 0, 0, -1), NONE_SUCH);
            Check.due("case " + c, s.drawn(1, c, 2, 1, -1), NONE_SUCH);
        }
        for (int i : new int[] {MIN, -2, -1, 3, 4, 16, MAX}) {
            Check.due("input " + i, s.drawn(1, 0, i, 0, -1), NONE_SUCH);
            Check.due("input " + i, s.drawn(1, 199, i, 1, -1), NONE_SUCH);
        }
        for (int type : new int[] {MIN, -2, -1, 2, 3, MAX}) {
            Check.due("type " + type, s.drawn(1, 0, 0, type, -1), NONE_SUCH);
            Check.due("type " + type, s.drawn(1, 199, 2, type, 0), NONE_SUCH);
        }
        for (int c : new int[] {0, 1, 198, 199}) {
            for (int i = 0; i < 3; i++) {
                for (int seed : new int[] {MIN, -1, 0, 1, MAX}) {
                    Check.due("a whole", s.drawn(seed, c, i, 0, -1), Draws.whole(seed, c, i));
                    Check.due("a length", s.drawn(seed, c, i, 1, -1), Draws.row(seed, c, i).length);
                }
            }
        }
        Check.due("no try", s.told(10), 0);
    }

    private static void drawnInts() {
        Check.sentence("as counter()");
        boolean[] met = new boolean[7];
        for (int seed = 0; seed < 40; seed++) {
            Subject s = new Subject();
            int c = seed % 2 == 0 ? 11 : seed % 12;
            int[] row = Draws.row(seed, c, 1);
            met[row.length] = true;
            for (int k : new int[] {MIN, -3, -2, row.length, row.length + 1, 6, 15, 16, MAX}) {
                Check.due("int " + k, s.drawn(seed, c, 1, 1, k), NONE_SUCH);
            }
            Check.due("length", s.drawn(seed, c, 1, 1, -1), row.length);
            for (int k = 0; k < row.length; k++) {
                Check.due("int " + k, s.drawn(seed, c, 1, 1, k), row[k]);
            }
            for (int k : new int[] {MIN, -2, 0, 1, MAX}) {
                Check.due("a whole's " + k, s.drawn(seed, c, 1, 0, k), NONE_SUCH);
            }
        }
        for (int length = 0; length <= 6; length++) {
            Check.must("a row of " + length, met[length]);
        }
    }

    private static void toldNumbers() {
        Check.sentence("told: 0 .. 10. BAD");
        Subject s = four();
        for (int round = 0; round < 2; round++) {
            for (int what : new int[] {MIN, -2, -1, 11, 12, MAX}) {
                Check.due("told(" + what + ")", s.told(what), BAD);
            }
            Check.due("told(0)", s.told(0), round == 0 ? 0 : 4);
            Check.due("told(8)", s.told(8), 9);
            Check.due("told(9)", s.told(9), 4);
            Check.due("told(10)", s.told(10), round == 0 ? 0 : 4);
            s.small(0, 2);
        }
    }

    private static void toldBefore() {
        Check.sentence("(0 before; 4: -1.)");
        Subject s = four();
        for (int what = 0; what <= 7; what++) {
            Check.due("told(" + what + ")", s.told(what), what == 4 ? -1 : 0);
        }
        Check.due("properties", s.told(9), 4);
        Check.due("tries", s.told(10), 0);
        for (int l = 0; l <= 8; l++) {
            Check.due("label(" + l + ")", s.label(l), 0);
        }
    }

    private static void toldOfTheLatest() {
        Check.sentence("Of the latest RUN or ALL SMALL");
        Subject s = four();
        s.run(0, 200, 0);
        Check.due("it failed", s.told(3), FALSE);
        Check.must("candidates", s.told(5) > 0 && s.told(7) == 1);
        int tries = s.told(10);
        s.run(1, 7, 0);
        int[] held = {7, 7, 0, 0, -1, 0, 0, 0};
        for (int what = 0; what <= 7; what++) {
            Check.due("a run that holds, told(" + what + ")", s.told(what), held[what]);
        }
        s.small(2, 1);
        int[] dropped = {36, 0, 36, 0, -1, 0, 0, 0};
        for (int what = 0; what <= 7; what++) {
            Check.due("small that is dropped, told(" + what + ")", s.told(what), dropped[what]);
        }
        s.small(0, 1);
        int[] small = {3, 3, 0, 0, -1, 0, 0, 0};
        for (int what = 0; what <= 7; what++) {
            Check.due("small that holds, told(" + what + ")", s.told(what), small[what]);
        }
        Check.due("tries of all", s.told(10), tries + 7 + 36 + 3);
        Check.due("properties", s.told(9), 4);
    }

    private static void labelNumbers() {
        Check.sentence("LABEL l (0 .. 8). BAD");
        Subject s = new Subject();
        for (int round = 0; round < 2; round++) {
            for (int l : new int[] {MIN, -2, -1, 9, 10, MAX}) {
                Check.due("label(" + l + ")", s.label(l), BAD);
            }
            Check.due("label(0)", s.label(0), round);
            Check.due("label(8)", s.label(8), 0);
            s.plain(-1, s.whole(1), s.whole(round * 8), 0);
            s.small(round, 0);
        }
        Check.due("label(8)", s.label(8), 1);
        Check.due("label(0)", s.label(0), 0);
    }

    private static void labelsOfTheLatest() {
        Check.sentence("counted by the latest RUN or ALL SMALL");
        Subject s = new Subject();
        int one = s.whole(1);
        s.plain(-1, one, s.whole(3), 0);
        s.plain(-1, one, s.whole(5), 0);
        s.plain(-1, one, -1, 0);
        s.run(0, 9, 0);
        Check.due("a run", s.label(3), 9);
        s.run(0, 4, 0);
        Check.due("a run again", s.label(3), 4);
        s.small(1, 0);
        Check.due("all small", s.label(5), 1);
        Check.due("the run's", s.label(3), 0);
        s.run(2, 4, 0);
        Check.due("without a label", s.label(5), 0);
    }

    private static void newObject() {
        Check.sentence("PropertyTests(): No TERMS, no PROPERTIES, no TRIES");
        Subject used = four();
        used.run(0, 200, 0);
        used.small(1, 1);
        Subject s = new Subject();
        for (int what = 0; what <= 10; what++) {
            Check.due("told(" + what + ")", s.told(what), what == 4 ? -1 : 0);
        }
        for (int l = 0; l <= 8; l++) {
            Check.due("label(" + l + ")", s.label(l), 0);
        }
        isNone(s, "of a new object");
        Check.due("no term 0", s.term(Subject.SUM, 0, 0, 0, 0), BAD);
        Check.due("no body 0", s.property(-1, -1, -1, -1, 0, -1, 0), BAD);
        Check.due("no property 0", s.run(0, 1, 0), BAD);
        Check.due("no property 0", s.small(0, 0), BAD);
        Check.due("no property 0", s.many(0, 0), BAD);
        Check.due("the first term", s.term(Subject.WHOLE, 0, 0, 0, 1), 0);
        Check.due("the first property", s.property(-1, -1, -1, -1, 0, -1, 0), 0);
        Check.due("the first try", s.small(0, 0), 1);
        Check.due("tries", s.told(10), 1);
    }
}
