import java.util.ArrayList;
import java.util.Arrays;
import java.util.List;

/**
 * Each sentence of the document on CASES, a RUN and its CANDIDATES that names an edge, at the edge and on
 * either side of it.
 */
public final class RunEdgeTests {
    private static final int BAD = Subject.BAD, FULL = Subject.FULL, NONE_SUCH = Subject.NONE_SUCH;
    private static final int MIN = Subject.MIN, MAX = Subject.MAX, FALSE = Subject.FALSE;

    public static void main(String[] args) {
        knownHashes();
        sizes();
        seedsThatWrap();
        modulo();
        numberOfCases();
        numberOfAProperty();
        upToTheFirst();
        firstAndLastCase();
        fewHeld();
        wholeCandidates();
        wholeCandidatesInOrder();
        rowCandidates();
        rowCandidatesInOrder();
        inputsRising();
        fromTheFirstAgain();
        sameOutcomeOnly();
        twoHundredCandidates();
        candidatesNotCounted();
        roomForARun();
        roomThatAFailureLeaves();
        eachCaseOfASeedTheSame();
        Check.end();
    }

    /** HASH(s, 0) is a well known mixing of s, whose answers for 0, 1 and -1 are published. */
    private static void knownHashes() {
        Check.sentence("HASH of two ints s and t");
        Check.due("hash of the test's own", Draws.hash(0, 0), 0);
        Check.due("hash of the test's own", Draws.hash(1, 0), 0x514E28B7);
        Check.due("hash of the test's own", Draws.hash(-1, 0), 0x81F16F39);
        Subject s = new Subject();
        Check.due("0 modulo 3, less 1", s.drawn(0, 0, 0, 0, -1), -1);
        Check.due("1364076727 modulo 3, less 1", s.drawn(1, 0, 0, 0, -1), 0);
        Check.due("-2114883783 modulo 3, less 1", s.drawn(-1, 0, 0, 0, -1), -1);
    }

    private static void drawnAsDue(Subject s, int seed, int c, int i) {
        String call = "seed " + seed + ", case " + c + ", input " + i;
        Check.due(call, s.drawn(seed, c, i, 0, -1), Draws.whole(seed, c, i));
        int[] row = Draws.row(seed, c, i);
        Check.due(call + ", length", s.drawn(seed, c, i, 1, -1), row.length);
        for (int k = 0; k < row.length; k++) {
            Check.due(call + ", int " + k, s.drawn(seed, c, i, 1, k), row[k]);
        }
        Check.due(call + ", beyond", s.drawn(seed, c, i, 1, row.length), NONE_SUCH);
    }

    private static void sizes() {
        Check.sentence("CASE c of a seed has SIZE z = 1 + c modulo 12");
        for (int c : new int[] {0, 1, 2, 10, 11, 12, 13, 22, 23, 24, 25, 35, 36, 197, 198, 199}) {
            int z = 1 + c % 12;
            int least = MAX;
            int most = MIN;
            int longest = 0;
            for (int seed = 0; seed < 400; seed++) {
                Subject s = new Subject();
                int v = s.drawn(seed, c, seed % 3, 0, -1);
                least = Math.min(least, v);
                most = Math.max(most, v);
                longest = Math.max(longest, s.drawn(seed, c, seed % 3, 1, -1));
                drawnAsDue(s, seed, c, seed % 3);
            }
            Check.due("the least whole of case " + c, least, -z);
            Check.due("the most", most, z);
            Check.due("the longest row", longest, z / 2);
        }
    }

    private static void seedsThatWrap() {
        Check.sentence("HASH .. (ints): s + t times 0x9E3779B9 wraps");
        for (int seed : new int[] {MIN, MIN + 1, -2, -1, 0, 1, 2, MAX - 1, MAX, 0x9E3779B9, -0x9E3779B9}) {
            for (int c : new int[] {0, 1, 11, 12, 100, 198, 199}) {
                Subject s = new Subject();
                for (int i = 0; i < 3; i++) {
                    drawnAsDue(s, seed, c, i);
                }
            }
        }
    }

    private static void modulo() {
        Check.sentence("(modulo: 0 and more.)");
        boolean below = false;
        for (int seed = 0; seed < 50; seed++) {
            for (int c = 0; c < 24; c++) {
                below |= Draws.hash(seed, 16 * c) < 0;
                Subject s = new Subject();
                int length = s.drawn(seed, c, 0, 1, -1);
                int v = s.drawn(seed, c, 0, 0, -1);
                Check.must("a length of 0 and more", length >= 0 && length <= (1 + c % 12) / 2);
                Check.must("a whole of -z .. z", v >= -1 - c % 12 && v <= 1 + c % 12);
            }
        }
        Check.must("a hash below 0 was met", below);
    }

    private static void numberOfCases() {
        Check.sentence("A RUN of n (1 .. 200) CASES");
        Subject s = new Subject();
        s.body(s.whole(1));
        for (int n : new int[] {MIN, MIN + 199, -200, -1, 0, 201, 202, 3000, MAX - 200, MAX}) {
            Check.due("run of " + n, s.run(0, n, 5), BAD);
            Check.due("tries", s.told(10), 0);
        }
        int tries = 0;
        for (int n : new int[] {1, 2, 199, 200}) {
            Check.due("run of " + n, s.run(0, n, 5), 1);
            Check.due("cases", s.told(0), n);
            Check.due("held", s.told(1), n);
            tries += n;
            Check.due("tries", s.told(10), tries);
        }
    }

    private static void numberOfAProperty() {
        Check.sentence("BAD: a number is none that there is");
        for (int count = 0; count <= 8; count++) {
            Subject s = new Subject();
            int one = s.whole(1);
            for (int p = 0; p < count; p++) {
                s.body(one);
            }
            for (int bad : new int[] {MIN, -2, -1, count, count + 1, 8, 9, MAX}) {
                Check.due("run of " + bad + " of " + count, s.run(bad, 1, 0), BAD);
                Check.due("small of " + bad + " of " + count, s.small(bad, 0), BAD);
                Check.due("many of " + bad + " of " + count, s.many(bad, 0), BAD);
            }
            Check.due("tries", s.told(10), 0);
            for (int good = 0; good < count; good++) {
                Check.due("run of " + good + " of " + count, s.run(good, 1, 0), 1);
                Check.due("small of " + good + " of " + count, s.small(good, 0), 1);
                Check.due("many of " + good + " of " + count, s.many(good, 0), 1);
            }
        }
    }

    /** 200 if there is none. */
    private static int firstCaseOf(int seed, int v) {
        int c = 0;
        while (c < 200 && Draws.whole(seed, c, 0) != v) {
            c++;
        }
        return c;
    }

    private static void upToTheFirst() {
        Check.sentence("A RUN TRIES CASES 0, 1, .. n - 1, up to the first with an OUTCOME above 0");
        for (int v : new int[] {-12, -5, -1, 0, 1, 5, 12}) {
            for (int seed = 0; seed < 8; seed++) {
                int c = firstCaseOf(seed, v);
                Subject s = new Subject();
                int fails = s.not(s.of(Subject.LIKE, s.input(0), s.whole(v)));
                s.typed(0, -1, -1, fails);
                if (c > 0) {
                    Check.due("run of " + c, s.run(0, c, seed), 1);
                    Check.due("cases", s.told(0), c);
                    Check.due("its outcome", s.told(3), 0);
                    Check.due("its case", s.told(4), -1);
                    Check.due("no counter", s.counter(0, -1), NONE_SUCH);
                }
                for (int n = c + 1; n <= Math.min(200, c + 2) && c < 200; n++) {
                    Check.due("run of " + n, s.run(0, n, seed), 0);
                    Check.due("cases", s.told(0), c + 1);
                    Check.due("held", s.told(1), c);
                    Check.due("its outcome", s.told(3), FALSE);
                    Check.due("its case", s.told(4), c);
                    Check.due("the counter", s.counter(0, -1), v);
                }
            }
        }
    }

    private static void firstAndLastCase() {
        Check.sentence("CASES 0, 1, .. n - 1: CASE 0, and CASE 199");
        Subject s = new Subject();
        s.body(s.whole(0));
        for (int n : new int[] {1, 2, 200}) {
            Check.due("run of " + n, s.run(0, n, 0), 0);
            Check.due("cases", s.told(0), 1);
            Check.due("its case", s.told(4), 0);
        }
        // A seed of which the very last case is the first whose inputs' sum is -23 or less.
        int seed = 0;
        while (firstBelow(seed) != 199) {
            seed++;
        }
        s = new Subject();
        int sum = s.of(Subject.PLUS, s.of(Subject.PLUS, s.input(0), s.input(1)), s.input(2));
        s.typed(0, 0, 0, s.of(Subject.BELOW, s.whole(-23), sum));
        Check.due("run of 199", s.run(0, 199, seed), 1);
        Check.due("run of 200", s.run(0, 200, seed), 0);
        Check.due("its case", s.told(4), 199);
        Check.due("cases", s.told(0), 200);
        Check.due("held", s.told(1), 199);
    }

    private static int firstBelow(int seed) {
        int c = 0;
        while (c < 200 && Draws.whole(seed, c, 0) + Draws.whole(seed, c, 1) + Draws.whole(seed, c, 2) > -23) {
            c++;
        }
        return c;
    }

    private static void fewHeld() {
        Check.sentence("2 none, but those that HELD, times ten, are fewer than n");
        boolean[] met = new boolean[3];
        for (int seed = 0; seed < 60; seed++) {
            for (int v : new int[] {0, 1, 3, 6}) {
                Subject s = new Subject();
                s.property(0, -1, -1, s.of(Subject.LIKE, s.input(0), s.whole(v)), s.whole(1), -1, 0);
                int held = 0;
                int asked = 0;
                for (int n = 1; n <= 200; n++) {
                    held += Draws.whole(seed, n - 1, 0) == v ? 1 : 0;
                    int near = held * 10 - n;
                    if (Math.abs(near) <= 1 && asked < 12) {
                        asked++;
                        met[near + 1] |= held > 0;
                        Check.due("run of " + n + ", " + held + " held", s.run(0, n, seed), near < 0 ? 2 : 1);
                        Check.due("held", s.told(1), held);
                        Check.due("dropped", s.told(2), n - held);
                    }
                }
            }
        }
        Check.must("the edge and either side of it", met[0] && met[1] && met[2]);
        Subject s = new Subject();
        int zero = s.whole(0);
        s.plain(zero, zero, -1, 0);
        Check.due("none of 1", s.run(0, 1, 0), 2);
        Check.due("none of 200", s.run(0, 200, 0), 2);
        Check.due("all small, all dropped", s.small(0, 3), 1);
        s.body(zero);
        Check.due("one failed, none held", s.run(1, 200, 0), 0);
    }

    /** A property that fails just where an input's row or whole is one of these. */
    private static int failsAt(Subject s, int input, int[]... values) {
        int any = s.whole(0);
        for (int[] value : values) {
            any = s.of(Subject.PLUS, any, s.of(Subject.LIKE, input, s.row(value)));
        }
        return s.not(any);
    }

    private static int failsAtWholes(Subject s, int input, int... values) {
        int any = s.whole(0);
        for (int value : values) {
            any = s.of(Subject.PLUS, any, s.of(Subject.LIKE, input, s.whole(value)));
        }
        return s.not(any);
    }

    private static void smallerIs(Subject s, int tried, int taken, int left) {
        Check.due("candidates", s.told(5), tried);
        Check.due("taken", s.told(6), taken);
        Check.due("none left", s.told(7), left);
        Check.due("tries", s.told(10), s.told(0) + tried);
    }

    private static void wholeCandidates() {
        Check.sentence("CANDIDATES of a WHOLE v that is not 0: 0, v / 2 (cut), v one nearer to 0");
        for (int v = -12; v <= 12; v++) {
            for (int i = 0; i < 3; i++) {
                int seed = 0;
                while (Draws.whole(seed, 11, i) != v) {
                    seed++;
                }
                Subject s = new Subject();
                int[] types = {-1, -1, -1};
                types[i] = 0;
                s.typed(types[0], types[1], types[2], failsAtWholes(s, s.input(i), v));
                Check.due("run", s.run(0, 12, seed), 0);
                smallerIs(s, v == 0 ? 0 : 3, 0, 1);
                Check.due("the counter", s.counter(i, -1), v);
            }
        }
    }

    private static int[] candidatesOf(int v) {
        return v == 0 ? new int[0] : new int[] {0, v / 2, v < 0 ? v + 1 : v - 1};
    }

    private static void wholeCandidatesInOrder() {
        Check.sentence("the CANDIDATES of what there is are TRIED, in order; the first one with the same OUTCOME");
        for (int v = -12; v <= 12; v++) {
            for (int w = -12; w <= 12; w++) {
                if (v != w) {
                    twoWholes(v, w, seedWithAhead(v, w));
                }
            }
        }
    }

    private static int seedWithAhead(int v, int w) {
        int seed = 0;
        while (firstCaseOf(seed, v) >= firstCaseOf(seed, w)) {
            seed++;
        }
        return seed;
    }

    private static void twoWholes(int v, int w, int seed) {
        Subject s = new Subject();
        s.typed(0, -1, -1, failsAtWholes(s, s.input(0), v, w));
        Check.due("run", s.run(0, 200, seed), 0);
        int[] candidates = candidatesOf(v);
        int place = 0;
        while (place < candidates.length && candidates[place] != w) {
            place++;
        }
        boolean taken = place < candidates.length;
        smallerIs(s, taken ? place + 1 + candidatesOf(w).length : candidates.length, taken ? 1 : 0, 1);
        Check.due("from " + v + " with " + w, s.counter(0, -1), taken ? w : v);
    }

    private static List<int[]> candidatesOf(int[] row) {
        List<int[]> all = new ArrayList<>();
        for (int gone = 0; gone < row.length; gone++) {
            int[] shorter = new int[row.length - 1];
            for (int k = 0; k < shorter.length; k++) {
                shorter[k] = row[k < gone ? k : k + 1];
            }
            all.add(shorter);
        }
        for (int k = 0; k < row.length; k++) {
            for (int nearer : candidatesOf(row[k])) {
                int[] changed = row.clone();
                changed[k] = nearer;
                all.add(changed);
            }
        }
        return all;
    }

    private static int placeOf(List<int[]> rows, int[] row) {
        int place = 0;
        while (place < rows.size() && !Arrays.equals(rows.get(place), row)) {
            place++;
        }
        return place;
    }

    private static int firstCaseOfRow(int seed, int[] row, int i) {
        int c = 0;
        while (c < 200 && !Arrays.equals(Draws.row(seed, c, i), row)) {
            c++;
        }
        return c;
    }

    private static void rowIs(Subject s, int i, int[] row) {
        Check.due("length", s.counter(i, -1), row.length);
        for (int k = 0; k < row.length; k++) {
            Check.due("int " + k, s.counter(i, k), row[k]);
        }
        Check.due("beyond", s.counter(i, row.length), NONE_SUCH);
    }

    private static void rowCandidates() {
        Check.sentence("Of a ROW: for each place the ROW without it; then for each place with an int that is not 0");
        boolean[] lengths = new boolean[7];
        boolean zeros = false;
        for (int seed = 0; seed < 12; seed++) {
            for (int c = 0; c < 24; c++) {
                int[] row = Draws.row(seed, c, 2);
                lengths[row.length] = true;
                int nonZero = 0;
                for (int number : row) {
                    nonZero += number != 0 ? 1 : 0;
                }
                zeros |= nonZero < row.length;
                Subject s = new Subject();
                s.typed(-1, -1, 1, failsAt(s, s.input(2), row));
                Check.due("run", s.run(0, 200, seed), 0);
                Check.due("its case", s.told(4), firstCaseOfRow(seed, row, 2));
                smallerIs(s, row.length + 3 * nonZero, 0, 1);
                rowIs(s, 2, row);
            }
        }
        for (int length = 0; length <= 6; length++) {
            Check.must("a row of " + length, lengths[length]);
        }
        Check.must("a row with a 0", zeros);
    }

    private static void rowCandidatesInOrder() {
        Check.sentence("for each place, rising, the ROW without it; then .. the ROW with it as 0, v / 2, one nearer to 0");
        for (int c = 0; c < 12; c++) {
            for (int seed = 0; seed < 6; seed++) {
                int[] row = Draws.row(seed, c, 0);
                List<int[]> candidates = candidatesOf(row);
                for (int[] other : candidates) {
                    int first = firstCaseOfRow(seed, row, 0);
                    if (firstCaseOfRow(seed, other, 0) > first) {
                        Subject s = new Subject();
                        s.typed(1, -1, -1, failsAt(s, s.input(0), row, other));
                        Check.due("run", s.run(0, 200, seed), 0);
                        smallerIs(s, placeOf(candidates, other) + 1 + candidatesOf(other).size(), 1, 1);
                        rowIs(s, 0, other);
                    }
                }
            }
        }
    }

    private static int isAll(Subject s, int[] first, int second, int[] third) {
        int rows = s.of(Subject.BOTH, s.of(Subject.LIKE, s.input(0), s.row(first)),
            s.of(Subject.LIKE, s.input(2), s.row(third)));
        return s.of(Subject.BOTH, rows, s.of(Subject.LIKE, s.input(1), s.whole(second)));
    }

    private static List<int[][]> candidatesOf(int[] first, int second, int[] third) {
        List<int[][]> all = new ArrayList<>();
        for (int[] smaller : candidatesOf(first)) {
            all.add(new int[][] {smaller, {second}, third});
        }
        for (int nearer : candidatesOf(second)) {
            all.add(new int[][] {first, {nearer}, third});
        }
        for (int[] smaller : candidatesOf(third)) {
            all.add(new int[][] {first, {second}, smaller});
        }
        return all;
    }

    /** Fails at the drawn inputs and at one candidate of them: how many were tried tells its place. */
    private static void inputsRising() {
        Check.sentence("CANDIDATES, for each INPUT, rising");
        int met = 0;
        for (int seed = 0; seed < 40; seed++) {
            int c = 3 + seed % 3;
            int[] first = Draws.row(seed, c, 0);
            int second = Draws.whole(seed, c, 1);
            int[] third = Draws.row(seed, c, 2);
            // Longer rows would not go into the steps of one try.
            if (first.length + third.length <= 3) {
                for (int[][] smaller : candidatesOf(first, second, third)) {
                    met += candidateOfThree(seed, c, new int[][] {first, {second}, third}, smaller) ? 1 : 0;
                }
            }
        }
        Check.must("enough were met: " + met, met > 100);
    }

    private static boolean candidateOfThree(int seed, int c, int[][] drawn, int[][] smaller) {
        Subject s = new Subject();
        int fails = s.of(Subject.PLUS, isAll(s, drawn[0], drawn[1][0], drawn[2]),
            isAll(s, smaller[0], smaller[1][0], smaller[2]));
        s.typed(1, 0, 1, s.not(fails));
        Check.due("run", s.run(0, c + 1, seed), 0);
        if (s.told(4) != c) {
            return false;
        }
        List<int[][]> candidates = candidatesOf(drawn[0], drawn[1][0], drawn[2]);
        int place = 0;
        while (!Arrays.deepEquals(candidates.get(place), smaller)) {
            place++;
        }
        int rest = candidatesOf(smaller[0], smaller[1][0], smaller[2]).size();
        smallerIs(s, place + 1 + rest, 1, 1);
        rowIs(s, 0, smaller[0]);
        Check.due("input 1", s.counter(1, -1), smaller[1][0]);
        rowIs(s, 2, smaller[2]);
        return true;
    }

    private static void fromTheFirstAgain() {
        Check.sentence("takes its place (then from the first CANDIDATE again)");
        int met = 0;
        for (int seed = 0; seed < 40; seed++) {
            Subject s = new Subject();
            // Input 1 must come below 4, and may then be anything; input 0 fails only from 3 on while it is.
            int high = s.of(Subject.BELOW, s.whole(3), s.input(1));
            int low = s.of(Subject.BELOW, s.whole(0), s.input(1));
            int first = s.input(0);
            int nonZero = s.of(Subject.BELOW, s.whole(0), first);
            int both = s.of(Subject.BOTH, low, s.of(Subject.IF, high, s.of(Subject.BELOW, s.whole(2), first), nonZero));
            s.typed(0, 0, -1, s.not(both));
            if (s.run(0, 200, seed) == 0) {
                int v = Draws.whole(seed, s.told(4), 0);
                int w = Draws.whole(seed, s.told(4), 1);
                int[] tried = simulate(v, w);
                smallerIs(s, tried[0], tried[1], 1);
                Check.due("input 0", s.counter(0, -1), 1);
                Check.due("input 1", s.counter(1, -1), 1);
                met += w > 3 && v > 2 ? 1 : 0;
            }
        }
        Check.must("input 0 was made smaller behind input 1", met > 5);
    }

    private static boolean failsTogether(int v, int w) {
        return w > 0 && (w > 3 ? v > 2 : v > 0);
    }

    private static int[] simulate(int first, int second) {
        int v = first;
        int w = second;
        int[] counts = {0, 0};
        boolean taken = true;
        while (taken) {
            taken = false;
            for (int nearer : candidatesOf(v)) {
                if (!taken) {
                    counts[0]++;
                    if (failsTogether(nearer, w)) {
                        v = nearer;
                        taken = true;
                    }
                }
            }
            for (int nearer : candidatesOf(w)) {
                if (!taken) {
                    counts[0]++;
                    if (failsTogether(v, nearer)) {
                        w = nearer;
                        taken = true;
                    }
                }
            }
            counts[1] += taken ? 1 : 0;
        }
        return counts;
    }

    private static void sameOutcomeOnly() {
        Check.sentence("the first one with the same OUTCOME takes its place");
        int[] outcomes = {Subject.NULL, Subject.INDEX, Subject.SIZE, Subject.KIND, Subject.DIVISION, Subject.ROOM,
            Subject.SPENT, FALSE};
        for (int large : outcomes) {
            for (int little : outcomes) {
                Subject s = new Subject();
                int input = s.input(0);
                int fails = large == FALSE ? s.whole(0) : s.throwing(large);
                int other = little == FALSE ? s.whole(0) : s.throwing(little);
                // From 3 on one outcome, 1 and 2 another, below 1 it holds.
                int below = s.of(Subject.IF, s.of(Subject.BELOW, input, s.whole(1)), s.whole(1), other);
                s.typed(0, -1, -1, s.of(Subject.IF, s.of(Subject.BELOW, input, s.whole(3)), below, fails));
                int seed = 0;
                while (Draws.whole(seed, 2, 0) != 3 || Draws.whole(seed, 0, 0) > 0 || Draws.whole(seed, 1, 0) > 0) {
                    seed++;
                }
                Check.due("run", s.run(0, 3, seed), 0);
                Check.due("its outcome", s.told(3), large);
                Check.due("from 3", s.counter(0, -1), large == little ? 1 : 3);
                Check.due("candidates", s.told(5), large == little ? 5 : 3);
                Check.due("again", s.again(), large);
            }
        }
    }

    /** Fails for six ints that are not 0: place k halves down to 1 or -1, see roomOfSix. */
    private static Subject sixInts() {
        Subject s = new Subject();
        int row = s.input(0);
        int product = s.whole(1);
        for (int k = 0; k < 6; k++) {
            product = s.of(Subject.TIMES, product, s.of(Subject.AT, row, s.whole(k)));
        }
        int shorter = s.of(Subject.BELOW, s.of(Subject.LENGTH, row), s.whole(6));
        s.typed(1, -1, -1, s.of(Subject.IF, shorter, s.whole(1), s.not(product)));
        return s;
    }

    private static boolean isSix(int[] row) {
        if (row.length < 6) {
            return false;
        }
        for (int number : row) {
            if (number == 0) {
                return false;
            }
        }
        return true;
    }

    /**
     * The numbers of the candidates that are taken: place k halves until it is 1 or -1; a halving is
     * behind 6 shorter rows, 3 candidates for each earlier place and one with 0 in its own. The last
     * number is that of the candidates in all: 24 more, of which none fails.
     */
    private static List<Integer> takenOf(int[] six) {
        List<Integer> taken = new ArrayList<>();
        int tried = 0;
        for (int k = 0; k < 6; k++) {
            for (int v = six[k]; Math.abs(v) > 1; v /= 2) {
                tried += 6 + 3 * k + 2;
                taken.add(tried);
            }
        }
        taken.add(tried + 24);
        return taken;
    }

    private static void twoHundredCandidates() {
        Check.sentence("until none has it, or 200 CANDIDATES were TRIED");
        int[] ends = new int[3];
        int[] takes = new int[3];
        for (int seed = 0; seed < 30000; seed++) {
            int c = 11;
            while (c < 200 && !isSix(Draws.row(seed, c, 0))) {
                c++;
            }
            if (c == 200) {
                continue;
            }
            List<Integer> taken = takenOf(Draws.row(seed, c, 0));
            int all = taken.get(taken.size() - 1);
            int end = all >= 199 && all <= 201 ? all - 199 : -1;
            int take = -1;
            for (int number : taken.subList(0, taken.size() - 1)) {
                take = number >= 199 && number <= 201 ? number - 199 : take;
            }
            if (end >= 0 && ends[end] < 3 || take >= 0 && takes[take] < 3) {
                ends[Math.max(end, 0)] += end >= 0 ? 1 : 0;
                takes[Math.max(take, 0)] += take >= 0 ? 1 : 0;
                sixMadeSmaller(seed, c, taken);
            }
        }
        for (int i = 0; i < 3; i++) {
            Check.must((199 + i) + " candidates in all were met", ends[i] > 0);
            Check.must("candidate " + (199 + i) + " was the one to take the place", takes[i] > 0);
        }
    }

    private static void sixMadeSmaller(int seed, int c, List<Integer> taken) {
        int all = taken.get(taken.size() - 1);
        int places = 0;
        for (int number : taken.subList(0, taken.size() - 1)) {
            places += number <= 200 ? 1 : 0;
        }
        Subject s = sixInts();
        Check.due("run", s.run(0, 200, seed), 0);
        Check.due("its case", s.told(4), c);
        Check.due("candidates, " + all + " without an end", s.told(5), Math.min(all, 200));
        Check.due("taken", s.told(6), places);
        Check.due("none left, and fewer than 200", s.told(7), all < 200 ? 1 : 0);
        Check.due("tries", s.told(10), c + 1 + Math.min(all, 200));
        int[] row = Draws.row(seed, c, 0);
        int left = places;
        for (int k = 0; k < 6; k++) {
            for (; left > 0 && Math.abs(row[k]) > 1; left--) {
                row[k] /= 2;
            }
        }
        rowIs(s, 0, row);
        Check.due("again", s.again(), FALSE);
    }

    private static void candidatesNotCounted() {
        Check.sentence("(LABELS of these are not counted.)");
        Subject s = new Subject();
        int input = s.input(0);
        // 3 and more fails, 1 and 2 holds with label 5, 0 and less is dropped.
        s.property(0, -1, -1, s.of(Subject.BELOW, s.whole(0), input), s.of(Subject.BELOW, input, s.whole(3)), s.whole(5), 0);
        int seed = 0;
        while (Draws.whole(seed, 2, 0) != 3 || Draws.whole(seed, 0, 0) > 0 || Draws.whole(seed, 1, 0) < 1) {
            seed++;
        }
        Check.due("run", s.run(0, 200, seed), 0);
        Check.due("candidates 0, 1, 2", s.told(5), 3);
        Check.due("held", s.told(1), 1);
        Check.due("dropped", s.told(2), 1);
        Check.due("cases", s.told(0), 3);
        Check.due("labelled", s.label(5), 1);
        Check.due("tries", s.told(10), 6);
    }

    /** An object with as many tries, each by a property that has no input and holds. */
    private static Subject withTries(int tries) {
        Subject s = new Subject();
        s.body(s.whole(1));
        int left = tries;
        while (left > 0 && tries - left <= 2600) {
            int n = Math.min(Math.min(200, left), 2800 - (tries - left));
            if (n == 0) {
                break;
            }
            Check.due("a run of " + n, s.run(0, n, 0), 1);
            left -= n;
        }
        for (; left > 0; left--) {
            Check.due("one try", s.small(0, 0), 1);
        }
        Check.due("tries", s.told(10), tries);
        return s;
    }

    private static void roomForARun() {
        Check.sentence("FULL: for a RUN: TRIES so far, and n + 200, would be above 3000");
        for (int n : new int[] {1, 2, 99, 100, 199, 200}) {
            for (int beyond = -1; beyond <= 2; beyond++) {
                Subject s = withTries(2800 - n + beyond);
                int cases = s.told(0);
                Check.due("a run of " + n + ", " + (3000 + beyond), s.run(0, n, 3), beyond > 0 ? FULL : 1);
                Check.due("cases", s.told(0), beyond > 0 ? cases : n);
                Check.due("tries", s.told(10), 2800 + (beyond > 0 ? beyond - n : beyond));
                Check.due("a bad run is bad all the same", s.run(0, 0, 3), BAD);
                Check.due("a bad run is bad all the same", s.run(0, 201, 3), BAD);
                Check.due("a bad run is bad all the same", s.run(1, n, 3), BAD);
            }
        }
        for (int tries : new int[] {2800, 2801, 2999, 3000}) {
            Subject s = withTries(tries);
            Check.due("a run of 1", s.run(0, 1, 0), FULL);
            Check.due("a run of 200", s.run(0, 200, 0), FULL);
            s.body(s.whole(0));
            Check.due("a run that would have one try", s.run(1, 1, 0), FULL);
            Check.due("tries", s.told(10), tries);
        }
    }

    private static void roomThatAFailureLeaves() {
        Check.sentence("TRIES so far: those that were, not those that could have been");
        Subject s = new Subject();
        s.body(s.whole(0));
        for (int i = 1; i <= 20; i++) {
            Check.due("a run of 200 that fails at once", s.run(0, 200, i), 0);
            Check.due("tries", s.told(10), i);
        }
        for (int i = 21; i <= 40; i++) {
            Check.due("again", s.again(), FALSE);
            Check.due("tries", s.told(10), i);
        }
    }

    private static int[] answers(Subject s) {
        int[] all = new int[40];
        int next = 0;
        for (int what = 0; what <= 7; what++) {
            all[next++] = s.told(what);
        }
        for (int l = 0; l <= 8; l++) {
            all[next++] = s.label(l);
        }
        for (int k = -1; k < 6; k++) {
            all[next++] = s.counter(0, k);
            all[next++] = s.counter(1, k);
        }
        return all;
    }

    private static Subject sumsAndRows() {
        Subject s = new Subject();
        int row = s.input(0);
        int v = s.input(1);
        int body = s.of(Subject.BELOW, s.of(Subject.PLUS, s.of(Subject.SUM, row), v), s.whole(20));
        s.property(1, 0, -1, s.of(Subject.LENGTH, row), body, s.of(Subject.LENGTH, row), 0);
        s.typed(0, 1, 0, s.whole(1));
        s.body(s.whole(0));
        return s;
    }

    private static void eachCaseOfASeedTheSame() {
        Check.sentence("each case of a seed the same, whatever runs beside");
        for (int seed : new int[] {MIN, -1, 0, 1, MAX}) {
            Subject alone = sumsAndRows();
            Subject beside = sumsAndRows();
            alone.run(0, 200, seed);
            beside.run(0, 150, seed + 1);
            beside.run(1, 20, seed);
            beside.small(1, 1);
            beside.run(2, 9, seed);
            beside.again();
            beside.drawn(seed + 1, 7, 1, 1, 0);
            sumsAndRows().run(0, 100, seed + 2);
            beside.run(0, 200, seed);
            Check.must("seed " + seed, Arrays.equals(answers(alone), answers(beside)));
        }
    }
}
