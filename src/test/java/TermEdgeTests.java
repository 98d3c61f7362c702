import java.util.Arrays;

/** Each sentence of the document on TERMS that names an edge, at the edge and on either side of it. */
public final class TermEdgeTests {
    private static final int BAD = Subject.BAD, FULL = Subject.FULL, MIN = Subject.MIN, MAX = Subject.MAX;
    private static final int HOLDS = Subject.HOLDS, FALSE = Subject.FALSE;
    private static final int NULL = Subject.NULL, INDEX = Subject.INDEX, SIZE = Subject.SIZE, KIND = Subject.KIND;
    private static final int DIVISION = Subject.DIVISION, ROOM = Subject.ROOM, SPENT = Subject.SPENT;

    /** Makes a term in a new object: each answer is asked of an object of its own. */
    private interface Make {
        int in(Subject s);
    }

    public static void main(String[] args) {
        whatItIs();
        sixtyTerms();
        earlierTerms();
        partsThatItHasNot();
        inputNumber();
        inputOfEachNumber();
        wholeNumber();
        wholesWrap();
        divisionByZero();
        cutTowardZero();
        below();
        likeWholes();
        likeRows();
        likeOfOneKind();
        at();
        length();
        zeros();
        put();
        putLeavesTheRow();
        join();
        part();
        partThrowsInOrder();
        sorted();
        turned();
        sum();
        ifChooses();
        bothChooses();
        nothingAndKinds();
        firstWrongPartTells();
        workedInOrder();
        whatAPartThrows();
        Check.end();
    }

    private static void wholeIs(String call, Make make, int want) {
        Subject s = new Subject();
        Check.due(call + " like " + want, s.outcome(s.of(Subject.LIKE, make.in(s), s.whole(want))), HOLDS);
        for (int other : new int[] {want - 1, want + 1}) {
            s = new Subject();
            Check.due(call + " like " + other, s.outcome(s.of(Subject.LIKE, make.in(s), s.whole(other))), FALSE);
        }
    }

    private static void rowIs(String call, Make make, int... want) {
        String name = call + " as " + Arrays.toString(want);
        Subject s = new Subject();
        int length = s.of(Subject.LENGTH, make.in(s));
        Check.due(name + ", length", s.outcome(s.of(Subject.LIKE, length, s.whole(want.length))), HOLDS);
        for (int k = 0; k < want.length; k++) {
            s = new Subject();
            int at = s.of(Subject.AT, make.in(s), s.whole(k));
            Check.due(name + ", int " + k, s.outcome(s.of(Subject.LIKE, at, s.whole(want[k]))), HOLDS);
        }
        s = new Subject();
        Check.due(name + ", beyond", s.outcome(s.of(Subject.AT, make.in(s), s.whole(want.length))), INDEX);
    }

    private static void isThrown(String call, Make make, int want) {
        Subject s = new Subject();
        // A row as a body would itself be told as KIND, so what is made is asked for its length.
        Check.due(call, s.outcome(s.of(Subject.LENGTH, make.in(s))), want);
    }

    private static int[] numbers(int length, int first) {
        int[] made = new int[length];
        for (int k = 0; k < length; k++) {
            made[k] = first + k;
        }
        return made;
    }

    private static void whatItIs() {
        Check.sentence("what it is (0 .. 20)");
        for (int what : new int[] {MIN, -2, -1, 21, 22, MAX}) {
            Subject s = new Subject();
            s.whole(1);
            Check.due("term of " + what, s.term(what, 0, 0, 0, 0), BAD);
            Check.due("terms", s.told(8), 1);
        }
        for (int what = 0; what <= 20; what++) {
            Subject s = new Subject();
            s.whole(1);
            Check.due("term of " + what, s.term(what, 0, 0, 0, 0), 1);
            Check.due("terms", s.told(8), 2);
        }
    }

    private static void sixtyTerms() {
        Check.sentence("TERMS, 60 at most, are numbered 0, 1, .. as they come");
        for (int what = 0; what <= 20; what++) {
            Subject s = new Subject();
            for (int t = 0; t < 59; t++) {
                Check.due("term", s.term(Subject.WHOLE, 0, 0, 0, t), t);
                Check.due("terms", s.told(8), t + 1);
            }
            Check.due("the 60th, of " + what, s.term(what, 58, 58, 58, 2), 59);
            Check.due("terms", s.told(8), 60);
            for (int again = 0; again < 2; again++) {
                Check.due("the 61st, of " + what, s.term(what, 58, 59, 0, 0), FULL);
                Check.due("terms", s.told(8), 60);
            }
            Check.due("a bad one where there is no room", s.term(what == 0 ? 0 : 21, 0, 0, 0, 3), BAD);
            Check.due("term 58 as it was", s.outcome(s.told(8) - 2), HOLDS);
        }
    }

    private static void earlierTerms() {
        Check.sentence("parts a, b, c are earlier TERMS");
        for (int what = 3; what <= 20; what++) {
            for (int i = 0; i < Subject.PART_COUNT[what]; i++) {
                Subject s = new Subject();
                Check.due("part " + i + " of the first term", s.term(what, 0, 0, 0, 0), BAD);
                s.whole(1);
                s.whole(2);
                for (int bad : new int[] {MIN, -2, -1, 2, 3, 59, 60, MAX}) {
                    int[] p = {0, 0, 0};
                    p[i] = bad;
                    Check.due("part " + i + " of " + what + " as " + bad, s.term(what, p[0], p[1], p[2], 0), BAD);
                    Check.due("terms", s.told(8), 2);
                }
                for (int good = 0; good < 4; good++) {
                    int[] p = {0, 0, 0};
                    p[i] = good;
                    Check.due("part " + i + " of " + what + " as " + good, s.term(what, p[0], p[1], p[2], 0),
                        2 + good);
                }
            }
        }
    }

    private static void partsThatItHasNot() {
        Check.sentence("its parts (those that it has not are not looked at)");
        for (int what = 0; what <= 20; what++) {
            for (int wild : new int[] {MIN, -2, -1, 1, 60, MAX}) {
                Subject s = new Subject();
                s.whole(1);
                int parts = Subject.PART_COUNT[what];
                Check.due("term of " + what + " with " + wild,
                    s.term(what, parts > 0 ? 0 : wild, parts > 1 ? 0 : wild, parts > 2 ? 0 : wild,
                        what == 0 ? 0 : wild), 1);
            }
        }
        Subject s = new Subject();
        Check.due("an input as the first", s.term(Subject.INPUT, -1, -1, -1, 0), 0);
        s = new Subject();
        Check.due("nothing as the first", s.term(Subject.NOTHING, -1, -1, -1, 99), 0);
    }

    private static void inputNumber() {
        Check.sentence("0 INPUT n (0 .. 2)");
        for (int n : new int[] {MIN, -2, -1, 3, 4, MAX}) {
            Subject s = new Subject();
            Check.due("input " + n, s.term(Subject.INPUT, 0, 0, 0, n), BAD);
            Check.due("terms", s.told(8), 0);
        }
        for (int n = 0; n <= 2; n++) {
            Subject s = new Subject();
            Check.due("input " + n, s.term(Subject.INPUT, 0, 0, 0, n), 0);
        }
    }

    private static void inputOfEachNumber() {
        Check.sentence("0 INPUT n: as the TYPES of INPUTS 0 .. 2 tell");
        for (int n = 0; n <= 2; n++) {
            for (int type = -1; type <= 1; type++) {
                Subject s = new Subject();
                int length = s.of(Subject.LENGTH, s.input(n));
                int[] types = {-1, -1, -1};
                types[n] = type;
                s.typed(types[0], types[1], types[2], s.of(Subject.BELOW, length, s.whole(99)));
                s.small(0, 0);
                Check.due("input " + n + " of type " + type, s.told(3), type == -1 ? NULL : type == 0 ? KIND : HOLDS);
                s = new Subject();
                types = new int[] {1 - Math.abs(type), 1 - Math.abs(type), 1 - Math.abs(type)};
                types[n] = type;
                s.typed(types[0], types[1], types[2], s.of(Subject.PLUS, s.input(n), s.whole(1)));
                s.small(0, 0);
                Check.due("input " + n + " of type " + type, s.told(3), type == -1 ? NULL : type == 0 ? HOLDS : KIND);
            }
        }
    }

    private static void wholeNumber() {
        Check.sentence("1 WHOLE n");
        for (int n : new int[] {MIN, MIN + 1, -1, 0, 1, 60, MAX - 1, MAX}) {
            wholeIs("whole " + n, s -> s.whole(n), n);
        }
        Subject s = new Subject();
        int[] bodies = {s.whole(MIN), s.whole(-1), s.whole(0), s.whole(1), s.whole(MAX)};
        for (int i = 0; i < bodies.length; i++) {
            Check.due("a body", s.outcome(bodies[i]), i == 2 ? FALSE : HOLDS);
        }
    }

    private static void wholes(int what, int a, int b, int want) {
        wholeIs(a + " of " + what + " with " + b, s -> s.of(what, s.whole(a), s.whole(b)), want);
    }

    private static void wholesWrap() {
        Check.sentence("a WHOLE (an int that wraps)");
        wholes(Subject.PLUS, MAX, 0, MAX);
        wholes(Subject.PLUS, MAX, 1, MIN);
        wholes(Subject.PLUS, MAX, 2, MIN + 1);
        wholes(Subject.PLUS, MIN, -1, MAX);
        wholes(Subject.PLUS, MIN, MIN, 0);
        wholes(Subject.PLUS, MAX, MAX, -2);
        wholes(Subject.MINUS, MIN, 0, MIN);
        wholes(Subject.MINUS, MIN, 1, MAX);
        wholes(Subject.MINUS, MAX, -1, MIN);
        wholes(Subject.MINUS, 0, MIN, MIN);
        wholes(Subject.MINUS, -1, MIN, MAX);
        wholes(Subject.TIMES, 46341, 46341, -2147479015);
        wholes(Subject.TIMES, 46340, 46340, 2147395600);
        wholes(Subject.TIMES, 65536, 65536, 0);
        wholes(Subject.TIMES, 65536, 32768, MIN);
        wholes(Subject.TIMES, MIN, -1, MIN);
        wholes(Subject.TIMES, MAX, -1, MIN + 1);
        wholes(Subject.TIMES, MAX, MAX, 1);
        wholes(Subject.QUOTIENT, MIN, -1, MIN);
        wholes(Subject.QUOTIENT, MIN + 1, -1, MAX);
        wholes(Subject.QUOTIENT, MIN, 1, MIN);
        wholes(Subject.REST, MIN, -1, 0);
        wholes(Subject.REST, MIN + 1, -1, 0);
        wholes(Subject.REST, MIN, MAX, -1);
    }

    private static void divisionByZero() {
        Check.sentence("6 a / b, 7 a % b (DIVISION by 0)");
        for (int a : new int[] {MIN, -1, 0, 1, MAX}) {
            for (int what : new int[] {Subject.QUOTIENT, Subject.REST}) {
                Subject s = new Subject();
                Check.due(a + " by 0", s.outcome(s.of(what, s.whole(a), s.whole(0))), DIVISION);
                wholes(what, a, 1, what == Subject.QUOTIENT ? a : 0);
                wholes(what, a, -1, what == Subject.QUOTIENT ? -a : 0);
            }
        }
    }

    private static void cutTowardZero() {
        Check.sentence("both cut toward 0");
        int[][] cases = {{7, 2, 3, 1}, {-7, 2, -3, -1}, {7, -2, -3, 1}, {-7, -2, 3, -1}, {6, 2, 3, 0}, {-6, 2, -3, 0},
            {1, 2, 0, 1}, {-1, 2, 0, -1}, {0, 2, 0, 0}, {2, 3, 0, 2}, {3, 3, 1, 0}, {4, 3, 1, 1}, {1, MIN, 0, 1},
            {MIN, MIN, 1, 0}, {MAX, MIN, 0, MAX}, {MIN, 2, -1073741824, 0}};
        for (int[] c : cases) {
            wholes(Subject.QUOTIENT, c[0], c[1], c[2]);
            wholes(Subject.REST, c[0], c[1], c[3]);
        }
    }

    private static void below() {
        Check.sentence("8 a < b (1, 0)");
        for (int b : new int[] {MIN + 1, -1, 0, 1, 16, MAX - 1}) {
            wholes(Subject.BELOW, b - 1, b, 1);
            wholes(Subject.BELOW, b, b, 0);
            wholes(Subject.BELOW, b + 1, b, 0);
        }
        wholes(Subject.BELOW, MIN, MAX, 1);
        wholes(Subject.BELOW, MAX, MIN, 0);
        wholes(Subject.BELOW, MIN, MIN, 0);
        wholes(Subject.BELOW, MAX, MAX, 0);
    }

    private static void likeWholes() {
        Check.sentence("9 LIKE a, b: 1, 0: WHOLES");
        for (int a : new int[] {MIN, -1, 0, 1, 1000, MAX}) {
            wholes(Subject.LIKE, a, a, 1);
            wholes(Subject.LIKE, a, a + 1, 0);
            wholes(Subject.LIKE, a, a - 1, 0);
        }
        wholes(Subject.LIKE, 1, -1, 0);
        wholes(Subject.LIKE, MIN, MAX, 0);
    }

    private static void likeRows() {
        Check.sentence("ROWS (of one length, with the same ints)");
        int[][] rows = {{}, {0}, {1}, {0, 0}, {0, 1}, {1, 0}, {0, 0, 0}, {MIN, MAX, -1}, {MIN, MAX, 0}};
        for (int[] a : rows) {
            for (int[] b : rows) {
                wholeIs(Arrays.toString(a) + " like " + Arrays.toString(b),
                    s -> s.of(Subject.LIKE, s.row(a), s.row(b)), Arrays.equals(a, b) ? 1 : 0);
            }
        }
        for (int a = 14; a <= 16; a++) {
            for (int b = 14; b <= 16; b++) {
                int one = a;
                int other = b;
                wholeIs(a + " zeros like " + b, s -> s.of(Subject.LIKE, s.zeros(one), s.zeros(other)), a == b ? 1 : 0);
            }
        }
        for (int k = 0; k < 16; k++) {
            int place = k;
            wholeIs("16 ints of which one differs", s -> s.of(Subject.LIKE, s.zeros(16),
                s.of(Subject.PUT, s.zeros(16), s.whole(place), s.whole(1))), 0);
        }
        // Behind a shorter row's end an earlier row's ints must not be seen.
        wholeIs("rows cut to one length", s -> s.of(Subject.LIKE,
            s.of(Subject.PART, s.row(1, 2), s.whole(0), s.whole(1)),
            s.of(Subject.PART, s.row(1, 3), s.whole(0), s.whole(1))), 1);
    }

    private static void likeOfOneKind() {
        Check.sentence("b must be of a's kind");
        Subject s = new Subject();
        Check.due("a row, a whole", s.outcome(s.of(Subject.LIKE, s.zeros(0), s.whole(0))), KIND);
        Check.due("a whole, a row", s.outcome(s.of(Subject.LIKE, s.whole(0), s.zeros(0))), KIND);
        Check.due("a row, nothing", s.outcome(s.of(Subject.LIKE, s.zeros(0), s.nothing())), NULL);
        Check.due("a whole, nothing", s.outcome(s.of(Subject.LIKE, s.whole(0), s.nothing())), NULL);
        Check.due("nothing, a row", s.outcome(s.of(Subject.LIKE, s.nothing(), s.zeros(0))), NULL);
        Check.due("nothing, a whole", s.outcome(s.of(Subject.LIKE, s.nothing(), s.whole(0))), NULL);
        Check.due("nothing, nothing", s.outcome(s.of(Subject.LIKE, s.nothing(), s.nothing())), NULL);
    }

    private static void at() {
        Check.sentence("10 AT a, b: ROW, WHOLE: INDEX");
        for (int length : new int[] {0, 1, 2, 15, 16}) {
            int[] ints = numbers(length, 100);
            for (int k : new int[] {MIN, -2, -1, 0, 1, length - 1, length, length + 1, 16, 17, MAX}) {
                Make made = s -> s.of(Subject.AT, s.row(ints), s.whole(k));
                if (k >= 0 && k < length) {
                    wholeIs("int " + k + " of " + length, made, 100 + k);
                } else {
                    Subject s = new Subject();
                    Check.due("int " + k + " of " + length, s.outcome(made.in(s)), INDEX);
                }
            }
        }
        // The row before has more ints than the one that is asked.
        Subject s = new Subject();
        int part = s.of(Subject.PART, s.row(7, 8, 9), s.whole(0), s.whole(2));
        Check.due("int 1 of 2", s.outcome(s.of(Subject.LIKE, s.of(Subject.AT, part, s.whole(1)), s.whole(8))), HOLDS);
        Check.due("int 2 of 2", s.outcome(s.of(Subject.AT, part, s.whole(2))), INDEX);
    }

    private static void length() {
        Check.sentence("11 LENGTH a: ROW (0 .. 16 ints)");
        for (int length = 0; length <= 16; length++) {
            int due = length;
            wholeIs("length", s -> s.of(Subject.LENGTH, s.zeros(due)), due);
        }
    }

    private static void zeros() {
        Check.sentence("12 ZEROS a: WHOLE: SIZE (below 0), ROOM (above 16)");
        for (int length : new int[] {MIN, -17, -16, -2, -1}) {
            isThrown("zeros " + length, s -> s.zeros(length), SIZE);
        }
        for (int length : new int[] {17, 18, 32, 65536, MAX}) {
            isThrown("zeros " + length, s -> s.zeros(length), ROOM);
        }
        for (int length : new int[] {0, 1, 2, 15, 16}) {
            rowIs("zeros", s -> s.zeros(length), new int[length]);
        }
        // A row of other ints was worked ahead of it, in the same try and in the one before.
        Subject s = new Subject();
        int before = s.of(Subject.SUM, s.row(numbers(8, 5)));
        int sum = s.of(Subject.SUM, s.zeros(16));
        int body = s.of(Subject.LIKE, s.of(Subject.TIMES, before, sum), s.whole(0));
        Check.due("a row", s.outcome(before), HOLDS);
        Check.due("zeros behind it", s.outcome(body), HOLDS);
        Check.due("zeros", s.outcome(sum), FALSE);
    }

    private static void put() {
        Check.sentence("13 PUT a, b, c: ROW, WHOLE, WHOLE: INDEX; a ROW like a, but c at b");
        for (int length : new int[] {0, 1, 2, 15}) {
            int[] ints = numbers(length, 100);
            for (int k : new int[] {MIN, -2, -1, 0, length - 1, length, length + 1, 15, 16, 17, MAX}) {
                Make made = s -> s.of(Subject.PUT, s.row(ints), s.whole(k), s.whole(-7));
                if (k >= 0 && k < length) {
                    int[] want = ints.clone();
                    want[k] = -7;
                    rowIs("put at " + k + " of " + length, made, want);
                } else {
                    isThrown("put at " + k + " of " + length, made, INDEX);
                }
            }
        }
        int[] last = new int[16];
        last[15] = MIN;
        rowIs("put at 15 of 16", s -> s.of(Subject.PUT, s.zeros(16), s.whole(15), s.whole(MIN)), last);
        isThrown("put at 16 of 16", s -> s.of(Subject.PUT, s.zeros(16), s.whole(16), s.whole(1)), INDEX);
        rowIs("put of the same", s -> s.of(Subject.PUT, s.row(4, 5), s.whole(1), s.whole(5)), 4, 5);
    }

    private static void putLeavesTheRow() {
        Check.sentence("a ROW like a, but c at b: a itself, and an INPUT, as it was");
        wholeIs("the row ahead of put and behind it", s -> {
            int row = s.row(1, 2);
            int put = s.of(Subject.PUT, row, s.whole(0), s.whole(50));
            return s.of(Subject.PLUS, s.of(Subject.SUM, put), s.of(Subject.SUM, row));
        }, 55);
        Subject s = new Subject();
        int input = s.input(0);
        int put = s.of(Subject.PUT, input, s.whole(0), s.whole(50));
        int both = s.of(Subject.MINUS, s.of(Subject.SUM, put), s.of(Subject.SUM, input));
        int first = s.of(Subject.AT, input, s.whole(0));
        s.property(1, -1, -1, s.of(Subject.LENGTH, input),
            s.of(Subject.LIKE, both, s.of(Subject.MINUS, s.whole(50), first)), -1, 0);
        Check.due("all small", s.small(0, 2), 1);
        Check.due("held", s.told(1), 30);
    }

    private static void join() {
        Check.sentence("14 JOIN a, b: ROWS: ROOM");
        int[][] good = {{0, 0}, {0, 1}, {1, 0}, {1, 1}, {0, 16}, {16, 0}, {1, 15}, {15, 1}, {8, 8}, {7, 8}, {8, 7}};
        for (int[] g : good) {
            wholeIs(g[0] + " and " + g[1],
                s -> s.of(Subject.LENGTH, s.of(Subject.JOIN, s.zeros(g[0]), s.zeros(g[1]))), g[0] + g[1]);
        }
        int[][] bad = {{1, 16}, {16, 1}, {8, 9}, {9, 8}, {15, 2}, {2, 15}, {16, 16}};
        for (int[] b : bad) {
            isThrown(b[0] + " and " + b[1], s -> s.of(Subject.JOIN, s.zeros(b[0]), s.zeros(b[1])), ROOM);
        }
        rowIs("8 and 8", s -> s.of(Subject.JOIN, s.row(numbers(8, 10)), s.row(numbers(8, 18))), numbers(16, 10));
        rowIs("0 and 3", s -> s.of(Subject.JOIN, s.zeros(0), s.row(1, 2, 3)), 1, 2, 3);
        rowIs("3 and 0", s -> s.of(Subject.JOIN, s.row(1, 2, 3), s.zeros(0)), 1, 2, 3);
        rowIs("one twice", s -> {
            int row = s.row(1, 2, 3);
            return s.of(Subject.JOIN, row, row);
        }, 1, 2, 3, 1, 2, 3);
        rowIs("0 and 0", s -> s.of(Subject.JOIN, s.zeros(0), s.zeros(0)));
    }

    private static Make partOf(int length, int from, int count) {
        return s -> s.of(Subject.PART, s.row(numbers(length, 40)), s.whole(from), s.whole(count));
    }

    private static void part() {
        Check.sentence("15 PART: INDEX (b below 0, or b + c exactly beyond): the c ints from b on");
        for (int length : new int[] {0, 1, 3}) {
            for (int from = -2; from <= length + 2; from++) {
                for (int count = 0; count <= length + 2; count++) {
                    String call = count + " from " + from + " of " + length;
                    if (from >= 0 && from + count <= length) {
                        rowIs(call, partOf(length, from, count), numbers(count, 40 + from));
                    } else {
                        isThrown(call, partOf(length, from, count), INDEX);
                    }
                }
            }
        }
        rowIs("16 from 0 of 16", partOf(16, 0, 16), numbers(16, 40));
        rowIs("15 from 1 of 16", partOf(16, 1, 15), numbers(15, 41));
        rowIs("1 from 15 of 16", partOf(16, 15, 1), 55);
        rowIs("0 from 16 of 16", partOf(16, 16, 0));
        int[][] beyond = {{16, 1, 16}, {16, 2, 15}, {16, 16, 1}, {16, 17, 0}, {15, 0, 16}, {3, MAX, 0}, {3, MAX, 1},
            {3, MAX, 16}, {3, MAX - 15, 16}, {3, MAX - 14, 16}, {3, MIN, 0}, {3, MIN, 16}, {3, MIN + 16, 16},
            {16, -1, 16}, {16, -16, 16}, {16, -1, 0}, {0, -1, 1}, {0, 0, 1}, {0, 1, 0}};
        for (int[] b : beyond) {
            isThrown(b[2] + " from " + b[1] + " of " + b[0], partOf(b[0], b[1], b[2]), INDEX);
        }
    }

    private static void partThrowsInOrder() {
        Check.sentence("15 PART: SIZE (c below 0), ROOM (above 16), INDEX");
        for (int from : new int[] {MIN, -1, 0, 1, 3, 4, MAX}) {
            for (int count : new int[] {MIN, MIN + 1, -16, -2, -1}) {
                isThrown(count + " from " + from, partOf(3, from, count), SIZE);
            }
            for (int count : new int[] {17, 18, 100, MAX - 1, MAX}) {
                isThrown(count + " from " + from, partOf(3, from, count), ROOM);
            }
        }
        isThrown("16 of 3", partOf(3, 0, 16), INDEX);
        isThrown("17 of 16", partOf(16, 0, 17), ROOM);
        isThrown("-1 of 16", partOf(16, 0, -1), SIZE);
    }

    private static void sorted() {
        Check.sentence("16 SORTED a");
        int[][] rows = {{}, {5}, {1, 2}, {2, 1}, {3, 3}, {MAX, MIN}, {0, MIN, MAX, -1, 1}, {2, 1, 2, 1, 2},
            {16, 15, 14, 13, 12, 11, 10, 9, 8, 7, 6, 5, 4, 3, 2, 1},
            {1, 2, 3, 4, 5, 6, 7, 8, 9, 10, 11, 12, 13, 14, 15, 0},
            {15, 0, 1, 2, 3, 4, 5, 6, 7, 8, 9, 10, 11, 12, 13, 14},
            {MAX, -1, MIN, 0, 7, 7, -7, 3, MAX, 2, MIN, 1, 9, -9, 0, 5}};
        for (int[] row : rows) {
            int[] want = row.clone();
            Arrays.sort(want);
            rowIs("sorted " + Arrays.toString(row), s -> s.of(Subject.SORTED, s.row(row)), want);
        }
        wholeIs("the row that is sorted stays as it was", s -> {
            int row = s.row(3, 1, 2);
            int first = s.of(Subject.AT, s.of(Subject.SORTED, row), s.whole(0));
            return s.of(Subject.PLUS, first, s.of(Subject.AT, row, s.whole(0)));
        }, 4);
    }

    private static void turned() {
        Check.sentence("17 TURNED a (the last first)");
        for (int length : new int[] {0, 1, 2, 3, 15, 16}) {
            int[] row = numbers(length, 30);
            int[] want = new int[length];
            for (int k = 0; k < length; k++) {
                want[k] = row[length - 1 - k];
            }
            rowIs("turned", s -> s.of(Subject.TURNED, s.row(row)), want);
        }
        rowIs("turned twice", s -> s.of(Subject.TURNED, s.of(Subject.TURNED, s.row(1, 2, 3))), 1, 2, 3);
    }

    private static void sum() {
        Check.sentence("18 SUM a of a ROW, wrapping");
        int[][] rows = {{}, {MIN}, {MAX}, {MAX, 0}, {MAX, 1}, {MAX, 1, -1}, {MIN, -1}, {MIN, MIN}, {MAX, MAX, MAX},
            {1, -1}, numbers(16, MAX - 3)};
        for (int[] row : rows) {
            int want = 0;
            for (int number : row) {
                want += number;
            }
            wholeIs("sum of " + Arrays.toString(row), s -> s.of(Subject.SUM, s.row(row)), want);
        }
    }

    private static void ifChooses() {
        Check.sentence("19 IF a, b, c: a must be a WHOLE: b, if it is not 0, else c (just that is worked)");
        for (int a : new int[] {MIN, -1, 0, 1, 2, MAX}) {
            wholeIs("if " + a, s -> s.of(Subject.IF, s.whole(a), s.whole(10), s.whole(20)), a != 0 ? 10 : 20);
            for (int k = NULL; k <= SPENT; k++) {
                Subject s = new Subject();
                int boom = s.throwing(k);
                int fine = s.whole(1);
                Check.due("if " + a + ", b throws", s.outcome(s.of(Subject.IF, s.whole(a), boom, fine)),
                    a != 0 ? k : HOLDS);
                Check.due("if " + a + ", c throws", s.outcome(s.of(Subject.IF, s.whole(a), fine, boom)),
                    a == 0 ? k : HOLDS);
            }
        }
        rowIs("if comes to a row", s -> s.of(Subject.IF, s.whole(1), s.row(4, 5), s.nothing()), 4, 5);
        rowIs("else comes to a row", s -> s.of(Subject.IF, s.whole(0), s.nothing(), s.row(4)), 4);
        isThrown("if comes to nothing", s -> s.of(Subject.IF, s.whole(1), s.nothing(), s.zeros(1)), NULL);
    }

    private static void bothChooses() {
        Check.sentence("20 BOTH a, b: 0, if a is 0 (b is not worked then); else 1, 0 as b is not 0, 0");
        int[] edges = {MIN, -1, 0, 1, 2, MAX};
        for (int a : edges) {
            for (int b : edges) {
                wholes(Subject.BOTH, a, b, a != 0 && b != 0 ? 1 : 0);
            }
            for (int k = NULL; k <= SPENT; k++) {
                Subject s = new Subject();
                int boom = s.throwing(k);
                Check.due("both " + a + ", b throws", s.outcome(s.of(Subject.BOTH, s.whole(a), boom)),
                    a != 0 ? k : FALSE);
                Check.due("both, a throws", s.outcome(s.of(Subject.BOTH, boom, s.whole(a))), k);
            }
            Subject s = new Subject();
            Check.due("both " + a + ", a row", s.outcome(s.of(Subject.BOTH, s.whole(a), s.zeros(1))),
                a != 0 ? KIND : FALSE);
            Check.due("both " + a + ", nothing", s.outcome(s.of(Subject.BOTH, s.whole(a), s.nothing())),
                a != 0 ? NULL : FALSE);
        }
    }

    /** The kinds that the parts of each term must be of: w a whole, r a row, e either, s a's, . any. */
    private static final String[] KINDS = {"", "", "", "ww", "ww", "ww", "ww", "ww", "ww", "es", "rw", "r", "w", "rww",
        "rr", "rww", "r", "r", "r", "w..", "ww"};

    private static int partOfKind(Subject s, char kind) {
        return kind == 'r' ? s.row(5, 5) : kind == 'n' ? s.nothing() : s.whole(1);
    }

    private static int outcomeWith(int what, String kinds) {
        Subject s = new Subject();
        int[] parts = new int[kinds.length()];
        for (int i = 0; i < parts.length; i++) {
            parts[i] = partOfKind(s, kinds.charAt(i));
        }
        int made = s.of(what, parts);
        if (what < Subject.ZEROS || what > Subject.TURNED) {
            return s.outcome(made);
        }
        // A row as a body is told as KIND, as a whole is by LENGTH: both ways, or a wrong one would hide.
        int asBody = s.outcome(made);
        int asPart = s.outcome(s.of(Subject.LENGTH, made));
        return asPart % 9 == 0 && asBody == KIND || asPart == asBody ? asPart : -1;
    }

    private static void nothingAndKinds() {
        Check.sentence("NOTHING throws 1 NULL, what is not as it must be 4 KIND");
        for (int what = 3; what <= 20; what++) {
            String good = KINDS[what].replace('e', 'w').replace('s', 'w').replace('.', 'w');
            Check.must("kinds of " + what + " as they must be", outcomeWith(what, good) % 9 == 0);
            for (int i = 0; i < good.length(); i++) {
                char due = KINDS[what].charAt(i);
                String ahead = good.substring(0, i);
                String behind = good.substring(i + 1);
                if (due != '.') {
                    Check.due("nothing as part " + i + " of " + what, outcomeWith(what, ahead + 'n' + behind), NULL);
                }
                if (due != '.' && due != 'e') {
                    char other = due == 'r' ? 'w' : 'r';
                    Check.due("the other kind as part " + i + " of " + what,
                        outcomeWith(what, ahead + other + behind), KIND);
                }
            }
        }
    }

    private static void firstWrongPartTells() {
        Check.sentence("looked at in that order");
        for (int what = 3; what <= 20; what++) {
            String good = KINDS[what].replace('e', 'w').replace('s', 'w');
            for (int i = 0; i < good.length(); i++) {
                for (int j = i + 1; j < good.length() && what != Subject.IF; j++) {
                    char[] first = good.toCharArray();
                    first[i] = 'n';
                    first[j] = good.charAt(j) == 'r' ? 'w' : 'r';
                    Check.due("nothing ahead of a kind, " + what, outcomeWith(what, new String(first)), NULL);
                    char[] second = good.toCharArray();
                    second[i] = good.charAt(i) == 'r' ? 'w' : 'r';
                    second[j] = 'n';
                    // A row is as good as a whole for a of LIKE: then nothing is what is wrong.
                    Check.due("a kind ahead of nothing, " + what, outcomeWith(what, new String(second)),
                        what == Subject.LIKE ? NULL : KIND);
                }
            }
        }
        Check.due("a kind ahead of a place", outcomeWith(Subject.AT, "ww"), KIND);
        isThrown("c's kind ahead of b's place",
            s -> s.of(Subject.PUT, s.zeros(0), s.whole(5), s.nothing()), NULL);
        isThrown("b's kind ahead of c's size",
            s -> s.of(Subject.PART, s.zeros(0), s.zeros(0), s.whole(-1)), KIND);
        Subject s = new Subject();
        Check.due("a's kind ahead of a division by 0",
            s.outcome(s.of(Subject.QUOTIENT, s.zeros(0), s.whole(0))), KIND);
    }

    private static void workedInOrder() {
        Check.sentence("its parts are worked, a ahead of b ahead of c");
        for (int what = 3; what <= 20; what++) {
            int parts = Subject.PART_COUNT[what];
            for (int i = 0; i < parts; i++) {
                for (int j = i + 1; j < parts && what != Subject.IF; j++) {
                    Subject s = new Subject();
                    int[] p = new int[parts];
                    for (int k = 0; k < parts; k++) {
                        p[k] = partOfKind(s, KINDS[what].charAt(k));
                    }
                    p[i] = s.throwing(SIZE);
                    p[j] = s.throwing(DIVISION);
                    Check.due("parts " + i + " and " + j + " of " + what, s.outcome(s.of(what, p)), SIZE);
                    p[i] = s.throwing(DIVISION);
                    p[j] = s.throwing(SIZE);
                    Check.due("parts " + i + " and " + j + " of " + what, s.outcome(s.of(what, p)), DIVISION);
                }
            }
        }
        Subject s = new Subject();
        Check.due("a throw ahead of a division by 0",
            s.outcome(s.of(Subject.REST, s.throwing(ROOM), s.whole(0))), ROOM);
    }

    private static void whatAPartThrows() {
        Check.sentence("What a TERM comes to: its parts are worked");
        for (int what = 3; what <= 20; what++) {
            for (int i = 0; i < Subject.PART_COUNT[what]; i++) {
                for (int k = NULL; k <= SPENT; k++) {
                    Subject s = new Subject();
                    int[] p = new int[Subject.PART_COUNT[what]];
                    for (int other = 0; other < p.length; other++) {
                        p[other] = partOfKind(s, KINDS[what].charAt(other));
                    }
                    p[i] = s.throwing(k);
                    if (what == Subject.IF && i == 2) {
                        p[0] = s.whole(0);
                    }
                    Check.due("part " + i + " of " + what + " throws", s.outcome(s.of(what, p)), k);
                }
            }
        }
    }
}
