import java.util.Arrays;

/** Each promise of the document by itself: ordinary inputs, the edges that it names, wrong inputs. */
public final class PromiseTests {
    private static final int BAD = PropertyTests.BAD, FULL = PropertyTests.FULL;
    private static final int NONE_SUCH = PropertyTests.BAD_INPUT;
    private static final int MIN = Integer.MIN_VALUE, MAX = Integer.MAX_VALUE;
    private static final int HOLDS = 0, NULL = 1, INDEX = 2, SIZE = 3, KIND = 4, DIVISION = 5, ROOM = 6, SPENT = 7;
    private static final int UNTHROWN = 8, FALSE = 9;
    private static final int INPUT = 0, WHOLE = 1, NOTHING = 2, PLUS = 3, MINUS = 4, TIMES = 5, QUOTIENT = 6;
    private static final int REST = 7, BELOW = 8, LIKE = 9, AT = 10, LENGTH = 11, ZEROS = 12, PUT = 13, JOIN = 14;
    private static final int PART = 15, SORTED = 16, TURNED = 17, SUM = 18, IF = 19, BOTH = 20;
    private static final int[] PART_COUNT = {0, 0, 0, 2, 2, 2, 2, 2, 2, 2, 2, 1, 1, 3, 2, 3, 1, 1, 1, 3, 2};

    private static int wrong = 0;
    private static String part = "";

    private static void due(String call, int got, int want) {
        if (got != want) {
            wrong++;
            System.out.println(part + ": " + call + " answered " + got + ", due is " + want);
        }
    }

    public static void main(String[] args) {
        constants();
        newObject();
        termNumbers();
        termsOfWholes();
        termLike();
        termsOfRows();
        nothingLeftOfEarlierTries();
        termsThatChoose();
        partsInOrder();
        steps();
        property();
        outcomes();
        run();
        runFew();
        runSmaller();
        runSmallerAtMost200();
        runFull();
        small();
        many();
        again();
        counter();
        drawn();
        told();
        label();
        refusedChangesNothing();
        seedsAlone();
        System.out.println(wrong == 0 ? "all promises hold" : wrong + " answers are not as due");
        if (wrong != 0) {
            System.exit(1);
        }
    }

    /** An object with terms made by name; all terms have numbers, so a test reads like the document. */
    private static final class Maker {
        final PropertyTests x = new PropertyTests();

        /** A term or property that a test rests on must be taken, or it would test something else. */
        private int taken(int number) {
            if (number < 0) {
                due("a term or property of the test's own", number, 0);
            }
            return number;
        }

        int input(int n) {
            return taken(x.term(INPUT, 0, 0, 0, n));
        }

        int whole(int n) {
            return taken(x.term(WHOLE, 0, 0, 0, n));
        }

        int nothing() {
            return taken(x.term(NOTHING, 0, 0, 0, 0));
        }

        int of(int what, int... parts) {
            int[] p = Arrays.copyOf(parts, 3);
            return taken(x.term(what, p[0], p[1], p[2], 0));
        }

        int row(int... ints) {
            int made = of(ZEROS, whole(ints.length));
            for (int k = 0; k < ints.length; k++) {
                made = of(PUT, made, whole(k), whole(ints[k]));
            }
            return made;
        }

        int throwing(int number) {
            switch (number) {
                case NULL: return of(LENGTH, nothing());
                case INDEX: return of(AT, row(), whole(0));
                case SIZE: return of(ZEROS, whole(-1));
                case KIND: return of(LENGTH, whole(0));
                case DIVISION: return of(QUOTIENT, whole(1), whole(0));
                case ROOM: return of(ZEROS, whole(17));
                default: {
                    int made = whole(0);
                    for (int i = 0; i < 6; i++) {
                        made = of(PLUS, made, made);
                    }
                    return made;
                }
            }
        }

        /** The outcome of one try of this body, without inputs, condition, label or expected throw. */
        int outcome(int body) {
            int p = taken(x.property(-1, -1, -1, -1, body, -1, 0));
            x.small(p, 0);
            return x.told(3);
        }
    }

    private static void comesTo(int what, int want, int... wholes) {
        Maker m = new Maker();
        int[] parts = new int[wholes.length];
        for (int i = 0; i < wholes.length; i++) {
            parts[i] = m.whole(wholes[i]);
        }
        int made = m.of(what, parts);
        String call = "term " + what + " of " + Arrays.toString(wholes);
        due(call + " like " + want, m.outcome(m.of(LIKE, made, m.whole(want))), HOLDS);
        due(call + " like another", m.outcome(m.of(LIKE, made, m.whole(want + 1))), FALSE);
    }

    private static void rowComesTo(Maker m, int made, int... want) {
        due("a row like " + Arrays.toString(want), m.outcome(m.of(LIKE, made, m.row(want))), HOLDS);
        due("the length of " + Arrays.toString(want),
            m.outcome(m.of(LIKE, m.of(LENGTH, made), m.whole(want.length))), HOLDS);
    }

    private static void throwsOf(int number, int what, int... wholes) {
        Maker m = new Maker();
        int[] parts = new int[wholes.length];
        for (int i = 0; i < wholes.length; i++) {
            parts[i] = m.whole(wholes[i]);
        }
        due("term " + what + " of " + Arrays.toString(wholes), m.outcome(m.of(what, parts)), number);
    }

    private static void constants() {
        part = "face";
        due("BAD", PropertyTests.BAD, -1);
        due("FULL", PropertyTests.FULL, -2);
        due("BAD_INPUT", PropertyTests.BAD_INPUT, -2147483648);
    }

    private static void newObject() {
        part = "promise 1";
        PropertyTests x = new PropertyTests();
        for (int what = 0; what <= 10; what++) {
            due("told(" + what + ")", x.told(what), what == 4 ? -1 : 0);
        }
        for (int l = 0; l <= 8; l++) {
            due("label(" + l + ")", x.label(l), 0);
        }
        for (int i = 0; i <= 2; i++) {
            due("counter", x.counter(i, -1), NONE_SUCH);
        }
        due("again", x.again(), -2);
        due("run", x.run(0, 1, 0), BAD);
        due("small", x.small(0, 0), BAD);
        due("many", x.many(0, 0), BAD);
        due("property", x.property(-1, -1, -1, -1, 0, -1, 0), BAD);
        PropertyTests other = new PropertyTests();
        due("term", x.term(WHOLE, 0, 0, 0, 1), 0);
        due("another object's told(8)", other.told(8), 0);
    }

    private static void termNumbers() {
        part = "promise 2, numbers";
        PropertyTests x = new PropertyTests();
        for (int what : new int[] {-1, 21, 100, MIN, MAX}) {
            due("term of " + what, x.term(what, 0, 0, 0, 0), BAD);
        }
        for (int n : new int[] {-1, 3, MIN, MAX}) {
            due("input " + n, x.term(INPUT, 0, 0, 0, n), BAD);
        }
        for (int what = PLUS; what <= BOTH; what++) {
            due("term " + what + " of itself", x.term(what, 0, 0, 0, 0), BAD);
        }
        due("told(8)", x.told(8), 0);
        due("input 0, parts not looked at", x.term(INPUT, -1, 99, MIN, 0), 0);
        due("input 2", x.term(INPUT, 0, 0, 0, 2), 1);
        due("whole", x.term(WHOLE, -1, 99, MIN, MIN), 2);
        due("nothing, n not looked at", x.term(NOTHING, -1, 99, MIN, 77), 3);
        int next = 4;
        for (int what = PLUS; what <= BOTH; what++) {
            for (int bad : new int[] {-1, next, MAX, MIN}) {
                for (int i = 0; i < 3; i++) {
                    int[] p = {0, 0, 0};
                    p[i] = bad;
                    boolean has = i < PART_COUNT[what];
                    due("term " + what + " with part " + i + " " + bad, x.term(what, p[0], p[1], p[2], -5),
                        has ? BAD : next);
                    if (!has) {
                        x = afresh();
                        next = 4;
                    }
                }
            }
            due("told(8)", x.told(8), next);
        }
        x = afresh();
        for (int t = 4; t < 60; t++) {
            due("term", x.term(PLUS, t - 1, t - 1, 0, 0), t);
        }
        due("term 60", x.term(PLUS, 0, 0, 0, 0), FULL);
        due("term 60, again", x.term(WHOLE, 0, 0, 0, 0), FULL);
        due("a bad one where there is no room", x.term(21, 0, 0, 0, 0), BAD);
        due("a bad part where there is no room", x.term(PLUS, 0, 60, 0, 0), BAD);
        due("told(8)", x.told(8), 60);
        due("the last term is one", x.property(0, 0, 0, 59, 59, 59, 0), 0);
    }

    private static PropertyTests afresh() {
        PropertyTests x = new PropertyTests();
        for (int t = 0; t < 4; t++) {
            x.term(WHOLE, 0, 0, 0, t);
        }
        return x;
    }

    private static void termsOfWholes() {
        part = "promise 2, wholes";
        comesTo(PLUS, 5, 2, 3);
        comesTo(PLUS, MIN, MAX, 1);
        comesTo(MINUS, -1, 2, 3);
        comesTo(MINUS, MAX, MIN, 1);
        comesTo(TIMES, -6, 2, -3);
        comesTo(TIMES, -2, MAX, 2);
        comesTo(TIMES, MIN, MIN, -1);
        comesTo(QUOTIENT, 3, 7, 2);
        comesTo(QUOTIENT, -3, -7, 2);
        comesTo(QUOTIENT, -3, 7, -2);
        comesTo(QUOTIENT, 3, -7, -2);
        comesTo(QUOTIENT, MIN, MIN, -1);
        comesTo(QUOTIENT, 0, 0, 5);
        comesTo(REST, 1, 7, 2);
        comesTo(REST, -1, -7, 2);
        comesTo(REST, 1, 7, -2);
        comesTo(REST, -1, -7, -2);
        comesTo(REST, 0, MIN, -1);
        comesTo(BELOW, 1, 2, 3);
        comesTo(BELOW, 0, 3, 3);
        comesTo(BELOW, 0, 4, 3);
        comesTo(BELOW, 1, MIN, MAX);
        comesTo(BELOW, 0, MAX, MIN);
        throwsOf(DIVISION, QUOTIENT, 1, 0);
        throwsOf(DIVISION, QUOTIENT, 0, 0);
        throwsOf(DIVISION, REST, 1, 0);
        throwsOf(DIVISION, REST, MIN, 0);
        for (int what = PLUS; what <= BELOW; what++) {
            Maker m = new Maker();
            due("nothing as a of " + what, m.outcome(m.of(what, m.nothing(), m.whole(1))), NULL);
            due("nothing as b of " + what, m.outcome(m.of(what, m.whole(1), m.nothing())), NULL);
            due("a row as a of " + what, m.outcome(m.of(what, m.row(), m.whole(1))), KIND);
            due("a row as b of " + what, m.outcome(m.of(what, m.whole(1), m.row())), KIND);
        }
    }

    private static void termLike() {
        part = "promise 2, like";
        comesTo(LIKE, 1, 5, 5);
        comesTo(LIKE, 0, 5, -5);
        Maker m = new Maker();
        due("rows", m.outcome(m.of(LIKE, m.row(1, 2), m.row(1, 2))), HOLDS);
        due("other last", m.outcome(m.of(LIKE, m.row(1, 2), m.row(1, 3))), FALSE);
        due("other first", m.outcome(m.of(LIKE, m.row(1, 2), m.row(0, 2))), FALSE);
        m = new Maker();
        due("longer", m.outcome(m.of(LIKE, m.row(0), m.row(0, 0))), FALSE);
        due("shorter", m.outcome(m.of(LIKE, m.row(0, 0), m.row(0))), FALSE);
        due("empty", m.outcome(m.of(LIKE, m.row(), m.row())), HOLDS);
        due("a row, a whole", m.outcome(m.of(LIKE, m.row(), m.whole(0))), KIND);
        due("a whole, a row", m.outcome(m.of(LIKE, m.whole(0), m.row())), KIND);
        m = new Maker();
        due("nothing, a whole", m.outcome(m.of(LIKE, m.nothing(), m.whole(0))), NULL);
        due("a whole, nothing", m.outcome(m.of(LIKE, m.whole(0), m.nothing())), NULL);
        due("a row, nothing", m.outcome(m.of(LIKE, m.row(), m.nothing())), NULL);
        due("nothing twice", m.outcome(m.of(LIKE, m.nothing(), m.nothing())), NULL);
    }

    private static void termsOfRows() {
        part = "promise 2, rows";
        for (int k = 0; k < 3; k++) {
            Maker m = new Maker();
            int at = m.of(AT, m.row(4, -5, MAX), m.whole(k));
            due("at " + k, m.outcome(m.of(LIKE, at, m.whole(new int[] {4, -5, MAX}[k]))), HOLDS);
        }
        for (int k : new int[] {-1, 3, 16, MIN, MAX}) {
            Maker m = new Maker();
            due("at " + k, m.outcome(m.of(AT, m.row(1, 1, 1), m.whole(k))), INDEX);
            due("put at " + k, m.outcome(m.of(PUT, m.row(1, 1, 1), m.whole(k), m.whole(0))), INDEX);
        }
        Maker m = new Maker();
        rowComesTo(m, m.of(ZEROS, m.whole(3)), 0, 0, 0);
        rowComesTo(m, m.of(ZEROS, m.whole(0)));
        due("16 zeros", m.outcome(m.of(LIKE, m.of(LENGTH, m.of(ZEROS, m.whole(16))), m.whole(16))), HOLDS);
        throwsOf(SIZE, ZEROS, -1);
        throwsOf(SIZE, ZEROS, MIN);
        throwsOf(ROOM, ZEROS, 17);
        throwsOf(ROOM, ZEROS, MAX);
        m = new Maker();
        rowComesTo(m, m.of(PUT, m.row(1, 2, 3), m.whole(2), m.whole(9)), 1, 2, 9);
        m = new Maker();
        int row = m.row(1, 2, 3);
        int put = m.of(PUT, row, m.whole(0), m.whole(9));
        due("put leaves the row that it is of", m.outcome(m.of(LIKE, m.of(MINUS, m.of(SUM, put), m.of(SUM, row)),
            m.whole(8))), HOLDS);
        joined();
        partOfRow();
        sortedAndTurned();
        rowKinds();
    }

    private static void joined() {
        Maker m = new Maker();
        rowComesTo(m, m.of(JOIN, m.row(1, 2), m.row(3)), 1, 2, 3);
        m = new Maker();
        rowComesTo(m, m.of(JOIN, m.row(), m.row(7)), 7);
        m = new Maker();
        int eight = m.of(ZEROS, m.whole(8));
        due("8 and 8", m.outcome(m.of(LIKE, m.of(LENGTH, m.of(JOIN, eight, eight)), m.whole(16))), HOLDS);
        due("8 and 9", m.outcome(m.of(JOIN, eight, m.of(ZEROS, m.whole(9)))), ROOM);
        due("16 and 0", m.outcome(m.of(JOIN, m.of(ZEROS, m.whole(16)), m.row())), KIND);
        due("16 and 16", m.outcome(m.of(JOIN, m.of(ZEROS, m.whole(16)), m.of(ZEROS, m.whole(16)))), ROOM);
    }

    private static void partOfRow() {
        int[][] good = {{0, 3}, {1, 2}, {2, 1}, {0, 0}, {3, 0}, {1, 1}};
        for (int[] g : good) {
            Maker m = new Maker();
            int made = m.of(PART, m.row(5, 6, 7), m.whole(g[0]), m.whole(g[1]));
            rowComesTo(m, made, Arrays.copyOfRange(new int[] {5, 6, 7}, g[0], g[0] + g[1]));
        }
        int[][] bad = {{0, 4, INDEX}, {1, 3, INDEX}, {4, 0, INDEX}, {-1, 1, INDEX}, {-1, 0, INDEX}, {0, -1, SIZE},
            {-1, -1, SIZE}, {9, MIN, SIZE}, {0, 17, ROOM}, {-1, 17, ROOM}, {0, MAX, ROOM}, {MAX, 16, INDEX},
            {MAX, 1, INDEX}, {MIN, 3, INDEX}, {0, 16, INDEX}};
        for (int[] b : bad) {
            Maker m = new Maker();
            due("part " + Arrays.toString(b),
                m.outcome(m.of(PART, m.row(5, 6, 7), m.whole(b[0]), m.whole(b[1]))), b[2]);
        }
    }

    private static void sortedAndTurned() {
        Maker m = new Maker();
        rowComesTo(m, m.of(SORTED, m.row(3, MIN, 3, MAX, 0)), MIN, 0, 3, 3, MAX);
        m = new Maker();
        rowComesTo(m, m.of(SORTED, m.row()));
        m = new Maker();
        rowComesTo(m, m.of(TURNED, m.row(1, 2, 3, 4)), 4, 3, 2, 1);
        m = new Maker();
        rowComesTo(m, m.of(TURNED, m.row()));
        m = new Maker();
        due("sum", m.outcome(m.of(LIKE, m.of(SUM, m.row(MAX, 1, 5)), m.whole(MIN + 5))), HOLDS);
        due("sum of none", m.outcome(m.of(LIKE, m.of(SUM, m.row()), m.whole(0))), HOLDS);
        int row = m.row(2, 1);
        due("sorting leaves the row that it is of", m.outcome(m.of(LIKE, m.of(TURNED, m.of(SORTED, row)), row)),
            HOLDS);
    }

    /** What comes to a row is asked for its length: a row as a body would throw KIND by itself. */
    private static int kindOutcome(Maker m, int what, int... parts) {
        int made = m.of(what, parts);
        return m.outcome(what >= ZEROS && what <= TURNED ? m.of(LENGTH, made) : made);
    }

    private static void rowKinds() {
        for (int what : new int[] {AT, LENGTH, PUT, JOIN, PART, SORTED, TURNED, SUM}) {
            Maker m = new Maker();
            int b = what == JOIN ? m.row() : m.whole(0);
            due("a whole as a of " + what, kindOutcome(m, what, m.whole(0), b, m.whole(0)), KIND);
            due("nothing as a of " + what, kindOutcome(m, what, m.nothing(), b, m.whole(0)), NULL);
        }
        for (int what : new int[] {AT, PUT, JOIN, PART}) {
            Maker m = new Maker();
            int b = what == JOIN ? m.whole(0) : m.row(0);
            due("the other kind as b of " + what, kindOutcome(m, what, m.row(0), b, m.whole(0)), KIND);
            due("nothing as b of " + what, kindOutcome(m, what, m.row(0), m.nothing(), m.whole(0)), NULL);
        }
        for (int what : new int[] {PUT, PART}) {
            Maker m = new Maker();
            due("a row as c of " + what, kindOutcome(m, what, m.row(0), m.whole(0), m.row()), KIND);
            due("nothing as c of " + what, kindOutcome(m, what, m.row(0), m.whole(0), m.nothing()), NULL);
            due("a kind ahead of a place of " + what, kindOutcome(m, what, m.row(0), m.whole(9), m.row()), KIND);
        }
        Maker m = new Maker();
        due("zeros of a row", kindOutcome(m, ZEROS, m.row()), KIND);
        due("zeros of nothing", kindOutcome(m, ZEROS, m.nothing()), NULL);
    }

    /** Terms that stand at the same step as a row of an earlier try. */
    private static void nothingLeftOfEarlierTries() {
        part = "promise 2, earlier tries";
        Maker m = new Maker();
        int two = m.whole(2);
        due("a row", m.outcome(m.of(SUM, m.of(TURNED, m.row(5, 6)))), HOLDS);
        due("zeros", m.outcome(m.of(SUM, m.of(ZEROS, two))), FALSE);
        due("nothing", m.outcome(m.of(SUM, m.nothing())), NULL);
        due("a row", m.outcome(m.of(SUM, m.of(TURNED, m.row(5, 6)))), HOLDS);
        due("an input of no type", m.outcome(m.of(SUM, m.input(0))), NULL);
        m = new Maker();
        m.x.property(1, 0, -1, -1, m.whole(0), -1, 0);
        m.x.property(-1, 1, -1, -1, m.of(LENGTH, m.input(0)), -1, 0);
        m.x.run(0, 1, 0);
        due("inputs of another property", m.x.run(1, 1, 0), 0);
        due("nothing", m.x.told(3), NULL);
        m.x.small(0, 1);
        due("inputs of another property", m.x.small(1, 1), 0);
        due("nothing", m.x.told(3), NULL);
        due("no input 0", m.x.counter(0, -1), NONE_SUCH);
    }

    private static void termsThatChoose() {
        part = "promise 2, if and both";
        Maker m = new Maker();
        int boom = m.throwing(DIVISION);
        due("if 1", m.outcome(m.of(IF, m.whole(1), m.whole(1), boom)), HOLDS);
        due("if -7", m.outcome(m.of(IF, m.whole(-7), m.whole(1), boom)), HOLDS);
        due("if 0", m.outcome(m.of(IF, m.whole(0), boom, m.whole(1))), HOLDS);
        due("if 0, a throw", m.outcome(m.of(IF, m.whole(0), m.whole(1), boom)), DIVISION);
        due("if a throw", m.outcome(m.of(IF, boom, m.whole(1), m.whole(1))), DIVISION);
        due("if a row", m.outcome(m.of(IF, m.row(1), boom, boom)), KIND);
        due("if nothing", m.outcome(m.of(IF, m.nothing(), boom, boom)), NULL);
        m = new Maker();
        due("if comes to a row", m.outcome(m.of(SUM, m.of(IF, m.whole(1), m.row(1), m.nothing()))), HOLDS);
        int none = m.of(IF, m.whole(0), m.whole(1), m.nothing());
        due("if comes to nothing, which throws where it is looked at",
            m.outcome(m.of(PLUS, none, m.throwing(DIVISION))), DIVISION);
        m = new Maker();
        boom = m.throwing(DIVISION);
        due("both 0", m.outcome(m.of(LIKE, m.of(BOTH, m.whole(0), boom), m.whole(0))), HOLDS);
        due("both 5, 7", m.outcome(m.of(LIKE, m.of(BOTH, m.whole(5), m.whole(7)), m.whole(1))), HOLDS);
        due("both 5, 0", m.outcome(m.of(LIKE, m.of(BOTH, m.whole(5), m.whole(0)), m.whole(0))), HOLDS);
        due("both 5, a throw", m.outcome(m.of(BOTH, m.whole(5), boom)), DIVISION);
        due("both a throw", m.outcome(m.of(BOTH, boom, m.whole(0))), DIVISION);
        due("both a row", m.outcome(m.of(BOTH, m.row(), boom)), KIND);
        due("both nothing", m.outcome(m.of(BOTH, m.nothing(), boom)), NULL);
        m = new Maker();
        due("both 1, a row", m.outcome(m.of(BOTH, m.whole(1), m.row(1))), KIND);
        due("both 1, nothing", m.outcome(m.of(BOTH, m.whole(1), m.nothing())), NULL);
        due("both 0, a row", m.outcome(m.of(BOTH, m.whole(0), m.row(1))), FALSE);
    }

    private static void partsInOrder() {
        part = "promise 2, parts in order";
        Maker m = new Maker();
        due("a's throw ahead of b's", m.outcome(m.of(PLUS, m.throwing(SIZE), m.throwing(DIVISION))), SIZE);
        due("b's throw ahead of a's kind", m.outcome(m.of(PLUS, m.nothing(), m.throwing(DIVISION))), DIVISION);
        due("a's kind ahead of b's", m.outcome(m.of(PLUS, m.row(), m.nothing())), KIND);
        due("a's nothing ahead of b's kind", m.outcome(m.of(PLUS, m.nothing(), m.row())), NULL);
        due("b's throw ahead of c's", m.outcome(m.of(PUT, m.row(), m.throwing(ROOM), m.throwing(SIZE))), ROOM);
        due("c's throw ahead of a's kind", m.outcome(m.of(PUT, m.whole(0), m.whole(0), m.throwing(SIZE))), SIZE);
        due("b's kind ahead of c's", m.outcome(m.of(PART, m.row(), m.row(), m.nothing())), KIND);
        due("c's throw ahead of a place",
            m.outcome(m.of(PUT, m.row(), m.whole(9), m.throwing(SIZE))), SIZE);
    }

    /** Comes to 1 in as many steps, each the part of the next; its terms are the object's first. */
    private static int chain(Maker m, int steps) {
        int made = m.of(ZEROS, m.whole(1));
        for (int i = 3; i < steps; i++) {
            made = m.of(TURNED, made);
        }
        return m.of(LENGTH, made);
    }

    private static void steps() {
        part = "steps";
        Maker m = new Maker();
        due("60 steps", m.outcome(chain(m, 60)), HOLDS);
        m = new Maker();
        int seven = m.whole(1);
        for (int i = 0; i < 5; i++) {
            seven = m.of(PLUS, seven, seven);
        }
        due("63 steps of one part again and again", m.outcome(seven), SPENT);
        m = new Maker();
        int thirty = chain(m, 30);
        due("61 steps", m.outcome(m.of(PLUS, thirty, thirty)), SPENT);
        int twentyNine = m.of(LENGTH, 27);
        int sixty = m.of(PLUS, thirty, twentyNine);
        due("60 steps of two", m.outcome(sixty), HOLDS);
        PropertyTests x = m.x;
        int p = x.property(-1, -1, -1, thirty, thirty, -1, 0);
        x.small(p, 0);
        due("condition and body, 60", x.told(1), 1);
        p = x.property(-1, -1, -1, thirty, m.of(IF, thirty, thirty, thirty), -1, 0);
        x.small(p, 0);
        due("condition and body, more than 60", x.told(3), SPENT);
        p = x.property(-1, -1, -1, m.of(PLUS, thirty, thirty), thirty, -1, SPENT);
        x.small(p, 0);
        due("a condition that is spent", x.told(3), SPENT);
        p = x.property(-1, -1, -1, -1, sixty, 0, 0);
        x.small(p, 0);
        due("a label that is spent", x.label(8), 1);
        p = x.property(-1, -1, -1, thirty, twentyNine, 0, 0);
        x.small(p, 0);
        due("a label that is not spent", x.label(1), 1);
        m = new Maker();
        p = m.x.property(-1, -1, -1, -1, m.throwing(SPENT), m.whole(3), SPENT);
        m.x.small(p, 0);
        due("spent as expected", m.x.told(1), 1);
        due("a label after that", m.x.label(8), 1);
        due("a label after that", m.x.label(3), 0);
    }

    private static void property() {
        part = "promise 3";
        Maker m = new Maker();
        PropertyTests x = m.x;
        due("without terms", x.property(0, 0, 0, -1, 0, -1, 0), BAD);
        m.whole(1);
        m.whole(2);
        for (int bad : new int[] {-2, 2, MIN, MAX}) {
            due("first " + bad, x.property(bad, 0, 0, -1, 0, -1, 0), BAD);
            due("second " + bad, x.property(0, bad, 0, -1, 0, -1, 0), BAD);
            due("third " + bad, x.property(0, 0, bad, -1, 0, -1, 0), BAD);
            due("condition " + bad, x.property(0, 0, 0, bad, 0, -1, 0), BAD);
            due("body " + bad, x.property(0, 0, 0, -1, bad, -1, 0), BAD);
            due("label " + bad, x.property(0, 0, 0, -1, 0, bad, 0), BAD);
        }
        due("body -1", x.property(0, 0, 0, -1, -1, -1, 0), BAD);
        for (int bad : new int[] {-1, 8, MIN, MAX}) {
            due("expected " + bad, x.property(0, 0, 0, -1, 0, -1, bad), BAD);
        }
        due("told(9)", x.told(9), 0);
        due("all there is", x.property(1, 1, 1, 1, 1, 1, 7), 0);
        due("as little as can be", x.property(-1, -1, -1, -1, 0, -1, 0), 1);
        due("inputs with gaps", x.property(-1, 0, -1, 0, 0, 0, 1), 2);
        for (int i = 3; i < 8; i++) {
            due("property", x.property(0, 1, -1, -1, 0, -1, 0), i);
        }
        due("the ninth", x.property(0, 1, -1, -1, 0, -1, 0), FULL);
        due("a bad one where there is no room", x.property(0, 1, 2, -1, 0, -1, 0), BAD);
        due("a bad body where there is no room", x.property(0, 1, 0, -1, 2, -1, 0), BAD);
        due("told(9)", x.told(9), 8);
        due("the last one is one", x.small(7, 0), 1);
    }

    private static int tryOf(Maker m, int condition, int body, int expected) {
        int p = m.x.property(-1, -1, -1, condition, body, -1, expected);
        m.x.small(p, 0);
        return m.x.told(2) == 1 ? -1 : m.x.told(3);
    }

    private static void outcomes() {
        part = "outcomes";
        for (int k = NULL; k <= SPENT; k++) {
            Maker m = new Maker();
            int boom = m.throwing(k);
            due("a body throws " + k, tryOf(m, -1, boom, 0), k);
            due("as expected", tryOf(m, -1, boom, k), HOLDS);
            due("another expected", tryOf(m, -1, boom, k % 7 + 1), k);
            due("a condition throws " + k, tryOf(m, boom, m.whole(1), 0), k);
            due("a condition throws, as the body should", tryOf(m, boom, boom, k), k);
            due("no throw", tryOf(m, -1, m.whole(1), k), UNTHROWN);
            due("no throw, false", tryOf(m, -1, m.whole(0), k), UNTHROWN);
        }
        Maker m = new Maker();
        due("a condition of 0", tryOf(m, m.whole(0), m.throwing(INDEX), 0), -1);
        due("a condition of -1", tryOf(m, m.whole(-1), m.throwing(INDEX), 0), INDEX);
        due("a condition that is a row", tryOf(m, m.row(), m.whole(1), 0), KIND);
        due("a condition that is nothing", tryOf(m, m.nothing(), m.whole(1), 0), NULL);
        due("a body that is a row", tryOf(m, -1, m.row(), 0), KIND);
        due("a body that is a row, expected", tryOf(m, -1, m.row(), KIND), HOLDS);
        due("a body that is nothing", tryOf(m, -1, m.nothing(), 0), NULL);
        due("a body that is nothing, expected", tryOf(m, -1, m.nothing(), NULL), HOLDS);
        m = new Maker();
        due("a body of 0", tryOf(m, -1, m.whole(0), 0), FALSE);
        due("a body of -3", tryOf(m, -1, m.whole(-3), 0), HOLDS);
        due("an input of no type", tryOf(m, -1, m.input(2), 0), NULL);
    }

    private static void run() {
        part = "promise 4";
        Maker m = new Maker();
        PropertyTests x = m.x;
        x.property(0, -1, -1, -1, m.whole(1), -1, 0);
        for (int bad : new int[] {0, -1, 201, MIN, MAX}) {
            due("run of " + bad, x.run(0, bad, 5), BAD);
        }
        for (int bad : new int[] {-1, 1, 8, MIN, MAX}) {
            due("run of property " + bad, x.run(bad, 1, 5), BAD);
        }
        due("told(10)", x.told(10), 0);
        due("run of 1", x.run(0, 1, 5), 1);
        due("told(0)", x.told(0), 1);
        due("run of 200", x.run(0, 200, MIN), 1);
        due("told(0)", x.told(0), 200);
        due("told(1)", x.told(1), 200);
        due("told(10)", x.told(10), 201);
        // Fails at the first case whose input is below -1: an earlier failure would be seen in told(4).
        x.property(0, -1, -1, -1, m.of(BELOW, m.whole(-2), m.input(0)), -1, 0);
        for (int seed = -20; seed < 20; seed++) {
            int failing = 0;
            while (failing < 12 && drawnByTest(seed, failing, 0, 0, -1) >= -1) {
                failing++;
            }
            due("run of seed " + seed, x.run(1, 12, seed), failing < 12 ? 0 : 1);
            due("its case", x.told(4), failing < 12 ? failing : -1);
            due("cases", x.told(0), Math.min(failing + 1, 12));
            due("held", x.told(1), failing);
            due("its outcome", x.told(3), failing < 12 ? FALSE : 0);
            if (failing < 12) {
                due("its counter", x.counter(0, -1), -2);
            }
        }
    }

    private static void runFew() {
        part = "promise 4, few held";
        boolean edge = false;
        boolean below = false;
        for (int seed = 0; seed < 40; seed++) {
            Maker m = new Maker();
            m.x.property(0, -1, -1, m.of(LIKE, m.input(0), m.whole(4)), m.whole(1), -1, 0);
            for (int n = 8; n <= 44; n += 3) {
                int held = 0;
                for (int c = 0; c < n; c++) {
                    held += drawnByTest(seed, c, 0, 0, -1) == 4 ? 1 : 0;
                }
                edge |= held > 0 && held * 10 == n;
                below |= held > 0 && held * 10 == n - 1;
                due("run of " + n + " by " + seed, m.x.run(0, n, seed), held * 10 < n ? 2 : 1);
                due("held", m.x.told(1), held);
                due("dropped", m.x.told(2), n - held);
                due("no counter", m.x.counter(0, -1), NONE_SUCH);
            }
        }
        due("an edge was met", edge && below ? 1 : 0, 1);
        Maker m = new Maker();
        m.x.property(-1, -1, -1, m.whole(0), m.whole(1), -1, 0);
        due("all dropped", m.x.run(0, 1, 0), 2);
        due("all small, all dropped", m.x.small(0, 0), 1);
    }

    /** Candidates in order, seen by which of them is taken. */
    private static void runSmaller() {
        part = "promise 4, smaller";
        for (int seed = 0; seed < 30; seed++) {
            Maker m = new Maker();
            PropertyTests x = m.x;
            x.property(0, 0, -1, -1, m.whole(0), -1, 0);
            int first = drawnByTest(seed, 0, 0, 0, -1);
            int second = drawnByTest(seed, 0, 1, 0, -1);
            due("all fail", x.run(0, 3, seed), 0);
            int nonZero = (first != 0 ? 1 : 0) + (second != 0 ? 1 : 0);
            due("tried", x.told(5), nonZero);
            due("taken", x.told(6), nonZero);
            due("none left", x.told(7), 1);
            due("input 0", x.counter(0, -1), 0);
            due("input 1", x.counter(1, -1), 0);
            due("input 2", x.counter(2, -1), NONE_SUCH);
            due("tries", x.told(10), 1 + nonZero);
        }
        wholeSmaller();
        rowSmaller();
        laterSmaller();
        alikeOnly();
    }

    /** Input 0 stops at 1, with three candidates that hold ahead of those of input 1. */
    private static void laterSmaller() {
        boolean met = false;
        for (int seed = 0; seed < 30; seed++) {
            Maker m = new Maker();
            PropertyTests x = m.x;
            int fails = m.of(BOTH, m.of(BELOW, m.whole(0), m.input(0)), m.of(BELOW, m.whole(2), m.input(1)));
            x.property(0, 0, -1, -1, m.of(LIKE, fails, m.whole(0)), -1, 0);
            if (x.run(0, 48, seed) == 0) {
                int first = drawnByTest(seed, x.told(4), 0, 0, -1);
                int second = drawnByTest(seed, x.told(4), 1, 0, -1);
                int tried = 6;
                int taken = 0;
                for (; first > 1; first /= 2) {
                    tried += 2;
                    taken++;
                }
                for (; second > 3; second = second / 2 >= 3 ? second / 2 : second - 1) {
                    tried += second / 2 >= 3 ? 5 : 6;
                    taken++;
                    met = true;
                }
                due("tried", x.told(5), tried);
                due("taken", x.told(6), taken);
                due("input 0", x.counter(0, -1), 1);
                due("input 1", x.counter(1, -1), 3);
            }
        }
        due("one was made smaller behind another", met ? 1 : 0, 1);
    }

    /** Fails from limit on: v goes by halves and then by ones. */
    private static void wholeSmaller() {
        for (int seed = 0; seed < 30; seed++) {
            Maker m = new Maker();
            PropertyTests x = m.x;
            x.property(0, -1, -1, -1, m.of(BELOW, m.input(0), m.whole(3)), -1, 0);
            if (x.run(0, 24, seed) == 0) {
                int v = drawnByTest(seed, x.told(4), 0, 0, -1);
                int tried = 0;
                int taken = 0;
                while (v > 3) {
                    tried += v / 2 >= 3 ? 2 : 3;
                    taken++;
                    v = v / 2 >= 3 ? v / 2 : v - 1;
                }
                due("smallest", x.counter(0, -1), 3);
                due("tried", x.told(5), tried + 3);
                due("taken", x.told(6), taken);
                due("none left", x.told(7), 1);
            }
        }
    }

    /** Fails with two places or more: places go first, the earliest first; then all ints come to 0. */
    private static void rowSmaller() {
        for (int seed = 0; seed < 30; seed++) {
            Maker m = new Maker();
            PropertyTests x = m.x;
            x.property(-1, 1, -1, -1, m.of(BELOW, m.of(LENGTH, m.input(1)), m.whole(2)), -1, 0);
            due("run", x.run(0, 100, seed), 0);
            int c = x.told(4);
            int length = drawnByTest(seed, c, 1, 1, -1);
            int tried = length - 2;
            int taken = length - 2;
            for (int k = length - 2; k < length; k++) {
                if (drawnByTest(seed, c, 1, 1, k) != 0) {
                    tried += 3;
                    taken++;
                }
            }
            due("tried", x.told(5), tried + 2);
            due("taken", x.told(6), taken);
            due("length", x.counter(1, -1), 2);
            due("int 0", x.counter(1, 0), 0);
            due("int 1", x.counter(1, 1), 0);
            due("no int 2", x.counter(1, 2), NONE_SUCH);
        }
    }

    /** 0 throws DIVISION, 1 and more is false: a candidate of the other outcome is not taken. */
    private static void alikeOnly() {
        Maker m = new Maker();
        PropertyTests x = m.x;
        int quotient = m.of(QUOTIENT, m.whole(0), m.input(0));
        x.property(0, -1, -1, m.of(BELOW, m.whole(0), m.input(0)), quotient, -1, 0);
        due("false", x.run(0, 50, 3), 0);
        due("false", x.told(3), FALSE);
        due("dropped candidates are not counted", x.told(2), x.told(4));
        due("smallest", x.counter(0, -1), 1);
        x.property(0, -1, -1, -1, m.of(IF, m.input(0), quotient, quotient), -1, DIVISION);
        due("unthrown", x.run(1, 50, 3), 0);
        due("unthrown", x.told(3), UNTHROWN);
        due("held candidates are not counted", x.told(1), x.told(4));
        due("one from 0", Math.abs(x.counter(0, -1)), 1);
        x.property(0, -1, -1, -1, quotient, -1, 0);
        x.run(2, 50, 3);
        due("a division or false", x.again(), x.told(3));
    }

    /** Fails for six ints that are not 0; see the counts of candidates in runSmallerAtMost200. */
    private static PropertyTests sixInts() {
        Maker m = new Maker();
        int row = m.input(0);
        int product = m.whole(1);
        for (int k = 0; k < 6; k++) {
            product = m.of(TIMES, product, m.of(AT, row, m.whole(k)));
        }
        int shorter = m.of(BELOW, m.of(LENGTH, row), m.whole(6));
        int body = m.of(IF, shorter, m.whole(1), m.of(LIKE, product, m.whole(0)));
        m.x.property(1, -1, -1, -1, body, m.whole(2), 0);
        return m.x;
    }

    private static void sixAre(PropertyTests x, int... ints) {
        for (int k = 0; k < 6; k++) {
            due("int " + k, x.counter(0, k), ints[k]);
        }
    }

    /**
     * Place k halves down to 1 or -1; each halving is behind 6 + 3 k candidates that hold, a 0 and
     * itself: 8 + 3 k. At the end all 24 hold.
     */
    private static void runSmallerAtMost200() {
        part = "promise 4, 200 candidates";
        PropertyTests x = sixInts();
        // -2 2 8 10 4 3: 8 + 11 + 3 * 14 + 3 * 17 + 2 * 20 + 23 + 24.
        due("run", x.run(0, 40, 335), 0);
        due("case", x.told(4), 35);
        due("tried", x.told(5), 199);
        due("taken", x.told(6), 11);
        due("none left", x.told(7), 1);
        due("tries", x.told(10), 36 + 199);
        sixAre(x, -1, 1, 1, 1, 1, 1);
        due("labels of candidates", x.label(2), 35);
        x = sixInts();
        // 2 2 1 12 -12 -5: 8 + 11 + 3 * 17 + 3 * 20 + 2 * 23 + 24.
        due("run", x.run(0, 40, 1112), 0);
        due("tried", x.told(5), 200);
        due("taken", x.told(6), 10);
        due("none left, but not fewer than 200", x.told(7), 0);
        sixAre(x, 1, 1, 1, 1, -1, -1);
        x = sixInts();
        // -11 12 -12 9 11 5: 3 * 8 + 3 * 11 + 3 * 14 + 3 * 17 + 2 * 20, and 10 of the next 20.
        due("run", x.run(0, 40, 9), 0);
        due("tried", x.told(5), 200);
        due("taken", x.told(6), 14);
        due("some left", x.told(7), 0);
        sixAre(x, -1, 1, -1, 1, 2, 5);
        due("tries", x.told(10), 36 + 200);
        due("again", x.again(), FALSE);
    }

    private static void runFull() {
        part = "promises 4, 5, 7, no room";
        Maker m = new Maker();
        PropertyTests x = m.x;
        x.property(-1, -1, -1, -1, m.whole(1), -1, 0);
        x.property(-1, -1, -1, -1, m.whole(0), -1, 0);
        x.property(0, 0, -1, -1, m.whole(1), -1, 0);
        for (int i = 0; i < 13; i++) {
            due("run", x.run(0, 200, i), 1);
        }
        due("tries", x.told(10), 2600);
        due("again: none", x.again(), -2);
        due("up to 3000 exactly", x.run(0, 200, 0), 1);
        due("above", x.run(0, 1, 0), FULL);
        due("bad ahead of full", x.run(0, 201, 0), BAD);
        due("bad ahead of full", x.run(3, 1, 0), BAD);
        due("told(0) as before", x.told(0), 200);
        due("tries", x.told(10), 2800);
        for (int i = 0; i < 4; i++) {
            due("all small", x.small(2, 3), 1);
        }
        due("tries", x.told(10), 2996);
        due("all small, 49", x.small(2, 3), FULL);
        due("all small, 9", x.small(2, 1), FULL);
        due("bad ahead of full", x.small(2, 4), BAD);
        due("told(0) as before", x.told(0), 49);
        due("tries", x.told(10), 2996);
        due("all small, 1", x.small(0, 3), 1);
        due("all small, 1, fails", x.small(1, 3), 0);
        due("again", x.again(), FALSE);
        due("again", x.again(), FALSE);
        due("tries", x.told(10), 3000);
        due("again: no tries left", x.again(), -3);
        due("tries", x.told(10), 3000);
        due("all small", x.small(0, 0), FULL);
        due("the counter's outcome as before", x.told(3), FALSE);
        due("many all the same", x.many(2, 3), 49);
        lastTry();
    }

    private static void lastTry() {
        Maker m = new Maker();
        PropertyTests x = m.x;
        x.property(-1, -1, -1, -1, m.whole(1), -1, 0);
        x.property(1, 0, -1, -1, m.whole(1), -1, 0);
        for (int i = 0; i < 2; i++) {
            x.run(0, 100, 0);
        }
        due("many", x.many(1, 3), 2800);
        due("3000 exactly", x.small(1, 3), 1);
        due("tries", x.told(10), 3000);
        due("again: none goes ahead of no tries", x.again(), -2);
    }

    private static void small() {
        part = "promise 5";
        Maker m = new Maker();
        PropertyTests x = m.x;
        due("without properties", x.small(0, 0), BAD);
        x.property(0, 1, -1, -1, m.whole(1), -1, 0);
        for (int bad : new int[] {-1, 4, MIN, MAX}) {
            due("m " + bad, x.small(0, bad), BAD);
            due("property " + bad, x.small(bad, 1), BAD);
        }
        due("told(10)", x.told(10), 0);
        due("m 0", x.small(0, 0), 1);
        due("cases", x.told(0), 1);
        due("m 1", x.small(0, 1), 1);
        due("cases", x.told(0), 12);
        due("m 2", x.small(0, 2), 1);
        due("cases", x.told(0), 155);
        due("tries", x.told(10), 168);
        due("m 3", x.small(0, 3), 1);
        due("tries", x.told(10), 2968);
        smallWholesInOrder();
        smallRowsInOrder();
        smallInputsInOrder();
        smallCounts();
    }

    private static void smallWholesInOrder() {
        int[] order = {0, 1, -1, 2, -2, 3, -3};
        for (int at = 0; at < 7; at++) {
            Maker m = new Maker();
            int unlike = m.of(LIKE, m.of(LIKE, m.input(1), m.whole(order[at])), m.whole(0));
            m.x.property(-1, 0, -1, -1, unlike, -1, 0);
            due("fails at " + order[at], m.x.small(0, 3), 0);
            due("its case", m.x.told(4), at);
            due("the counter", m.x.counter(1, -1), order[at]);
            if (at > 0 && at < 5) {
                due("m too small", m.x.small(0, (at - 1) / 2), 1);
                due("cases", m.x.told(0), at % 2 == 1 ? at : at - 1);
            }
        }
    }

    private static void smallRowsInOrder() {
        int[][] rows = {{}, {0}, {1}, {-1}, {2}, {-2}, {0, 0}, {0, 1}, {0, -1}, {0, 2}, {0, -2}, {1, 0}, {1, 1}};
        for (int at = 0; at < rows.length; at++) {
            Maker m = new Maker();
            int unlike = m.of(LIKE, m.of(LIKE, m.input(0), m.row(rows[at])), m.whole(0));
            m.x.property(1, -1, -1, -1, unlike, -1, 0);
            due("fails at " + Arrays.toString(rows[at]), m.x.small(0, 2), 0);
            due("its case", m.x.told(4), at);
        }
        Maker m = new Maker();
        int unlike = m.of(LIKE, m.of(LIKE, m.input(0), m.row(-3, -3, -3)), m.whole(0));
        m.x.property(1, -1, -1, -1, unlike, -1, 0);
        due("the last one", m.x.small(0, 3), 0);
        due("its case", m.x.told(4), 399);
        due("cases", m.x.told(0), 400);
        due("held", m.x.told(1), 399);
    }

    private static void smallInputsInOrder() {
        int[] order = {0, 1, -1};
        for (int index = 0; index < 27; index++) {
            Maker m = new Maker();
            int first = m.of(LIKE, m.input(0), m.whole(order[index / 9]));
            int second = m.of(LIKE, m.input(1), m.whole(order[index / 3 % 3]));
            int third = m.of(LIKE, m.input(2), m.whole(order[index % 3]));
            int all = m.of(BOTH, first, m.of(BOTH, second, third));
            m.x.property(0, 0, 0, -1, m.of(LIKE, all, m.whole(0)), -1, 0);
            due("fails", m.x.small(0, 1), 0);
            due("its case", m.x.told(4), index);
            due("tries", m.x.told(10), index + 1);
        }
    }

    private static void smallCounts() {
        Maker m = new Maker();
        int below = m.of(BELOW, m.input(0), m.whole(1));
        m.x.property(0, -1, -1, below, m.of(BELOW, m.whole(-3), m.input(0)), m.of(MINUS, m.whole(0), m.input(0)), 0);
        due("fails at -3", m.x.small(0, 3), 0);
        due("cases", m.x.told(0), 7);
        due("held", m.x.told(1), 3);
        due("dropped", m.x.told(2), 3);
        due("outcome", m.x.told(3), FALSE);
        due("case", m.x.told(4), 6);
        for (int what = 5; what <= 7; what++) {
            due("told(" + what + ")", m.x.told(what), 0);
        }
        for (int l = 0; l <= 8; l++) {
            due("label " + l, m.x.label(l), l < 3 ? 1 : 0);
        }
        due("the counter is not made smaller", m.x.counter(0, -1), -3);
    }

    private static void many() {
        part = "promise 6";
        int[] wholes = {1, 3, 5, 7};
        int[] rows = {1, 4, 31, 400};
        for (int types = 0; types < 27; types++) {
            int[] t = {types / 9 - 1, types / 3 % 3 - 1, types % 3 - 1};
            Maker m = new Maker();
            m.whole(1);
            m.x.property(t[0], t[1], t[2], -1, 0, -1, 0);
            for (int size = 0; size <= 3; size++) {
                long count = 1;
                for (int type : t) {
                    count *= type == -1 ? 1 : type == 0 ? wholes[size] : rows[size];
                }
                due("many of " + Arrays.toString(t) + " to " + size, m.x.many(0, size),
                    count > 3000 ? -2 : (int) count);
                int want = m.x.told(10) + count > 3000 ? FULL : 1;
                due("all small", m.x.small(0, size), want);
            }
            for (int bad : new int[] {-1, 4, MIN, MAX}) {
                due("m " + bad, m.x.many(0, bad), BAD);
                due("property " + bad, m.x.many(bad, 0), BAD);
            }
        }
        Maker m = new Maker();
        m.whole(1);
        m.x.property(1, 1, 1, -1, 0, -1, 0);
        due("above 3000", m.x.small(0, 3), FULL);
        due("nothing was tried", m.x.told(10), 0);
    }

    private static void again() {
        part = "promise 7";
        Maker m = new Maker();
        PropertyTests x = m.x;
        int quotient = m.of(QUOTIENT, m.whole(1), m.input(0));
        x.property(0, -1, -1, -1, quotient, m.whole(1), 0);
        x.property(0, -1, -1, -1, m.whole(1), m.whole(1), 0);
        due("none", x.again(), -2);
        due("none tried", x.told(10), 0);
        due("all small", x.small(0, 2), 0);
        int[] before = snapshot(x);
        for (int i = 1; i < 4; i++) {
            due("again", x.again(), DIVISION);
            due("tries", x.told(10), 1 + i);
        }
        before[10] = x.told(10);
        due("nothing else of it is counted", Arrays.equals(before, snapshot(x)) ? 1 : 0, 1);
        due("a refused run leaves the counter", x.run(0, 0, 0), BAD);
        due("again", x.again(), DIVISION);
        due("a run without a counter", x.run(1, 5, 0), 1);
        due("none", x.again(), -2);
        due("labels as of the run", x.label(1), 5);
        due("a run", x.run(0, 50, 4), 0);
        due("again after a run", x.again(), x.told(3));
        x.small(1, 1);
        due("none after all small", x.again(), -2);
        x.property(1, 0, -1, -1, m.of(AT, m.input(0), m.input(1)), -1, 0);
        due("rows and wholes", x.small(2, 1), 0);
        due("again", x.again(), INDEX);
        due("drawn in between", x.drawn(4, 11, 0, 1, 0), drawnByTest(4, 11, 0, 1, 0));
        due("again", x.again(), INDEX);
    }

    private static int[] snapshot(PropertyTests x) {
        int[] all = new int[60];
        for (int what = 0; what <= 10; what++) {
            all[what] = x.told(what);
        }
        for (int l = 0; l <= 8; l++) {
            all[20 + l] = x.label(l);
        }
        for (int i = 0; i < 3; i++) {
            for (int k = -1; k < 6; k++) {
                all[30 + 7 * i + k + 1] = x.counter(i, k);
            }
        }
        return all;
    }

    private static void counter() {
        part = "promise 8";
        Maker m = new Maker();
        PropertyTests x = m.x;
        int like = m.of(LIKE, m.input(1), m.row(2, -1));
        x.property(0, 1, -1, -1, m.of(LIKE, like, m.whole(0)), -1, 0);
        due("fails", x.small(0, 2), 0);
        due("a whole", x.counter(0, -1), 0);
        due("a whole has no ints", x.counter(0, 0), NONE_SUCH);
        due("a length", x.counter(1, -1), 2);
        due("int 0", x.counter(1, 0), 2);
        due("int 1", x.counter(1, 1), -1);
        for (int k : new int[] {2, 15, 16, 17, -2, MIN, MAX}) {
            due("int " + k, x.counter(1, k), NONE_SUCH);
            due("a whole's " + k, x.counter(0, k), NONE_SUCH);
        }
        for (int i : new int[] {2, 3, -1, MIN, MAX}) {
            due("input " + i, x.counter(i, -1), NONE_SUCH);
            due("input " + i, x.counter(i, 0), NONE_SUCH);
        }
        due("refused", x.small(0, 4), BAD);
        due("as before", x.counter(1, 1), -1);
        x.property(0, 1, -1, -1, m.whole(1), -1, 0);
        x.run(1, 1, 0);
        due("none", x.counter(1, 1), NONE_SUCH);
        due("none", x.counter(0, -1), NONE_SUCH);
    }

    /** The document's HASH in longs, each step cut to 32 bits. */
    private static int hashByTest(int s, int t) {
        long mask = 0xFFFFFFFFL;
        long x = (s + t * 0x9E3779B9L) & mask;
        x = ((x ^ (x >> 16)) * 0x85EBCA6BL) & mask;
        x = ((x ^ (x >> 13)) * 0xC2B2AE35L) & mask;
        return (int) (x ^ (x >> 16));
    }

    private static int drawnByTest(int seed, int c, int i, int type, int k) {
        int z = 1 + c % 12;
        int h = hashByTest(seed, 16 * c + i);
        if (type == 0) {
            return Math.floorMod(h, 2 * z + 1) - z;
        }
        return k == -1 ? Math.floorMod(h, z / 2 + 1) : Math.floorMod(hashByTest(h, k + 1), 2 * z + 1) - z;
    }

    private static void drawn() {
        part = "promise 9";
        PropertyTests x = new PropertyTests();
        boolean[] lengths = new boolean[7];
        for (int seed : new int[] {0, 1, -1, 54, MIN, MAX}) {
            for (int c = 0; c < 200; c++) {
                for (int i = 0; i < 3; i++) {
                    due("whole", x.drawn(seed, c, i, 0, -1), drawnByTest(seed, c, i, 0, -1));
                    due("a whole has no ints", x.drawn(seed, c, i, 0, 0), NONE_SUCH);
                    int length = drawnByTest(seed, c, i, 1, -1);
                    lengths[length] = true;
                    due("length", x.drawn(seed, c, i, 1, -1), length);
                    for (int k = 0; k < 8; k++) {
                        due("int", x.drawn(seed, c, i, 1, k),
                            k < length ? drawnByTest(seed, c, i, 1, k) : NONE_SUCH);
                    }
                }
                x = new PropertyTests();
            }
        }
        for (boolean seen : lengths) {
            due("each length was met", seen ? 1 : 0, 1);
        }
        for (int bad : new int[] {MIN, -1, MAX}) {
            due("case " + bad, x.drawn(0, bad, 0, 0, -1), NONE_SUCH);
            due("input " + bad, x.drawn(0, 0, bad, 0, -1), NONE_SUCH);
            due("type " + bad, x.drawn(0, 0, 0, bad, -1), NONE_SUCH);
            due("int " + bad, x.drawn(0, 11, 0, 1, bad == -1 ? -2 : bad), NONE_SUCH);
        }
        due("case 200", x.drawn(0, 200, 0, 0, -1), NONE_SUCH);
        due("input 3", x.drawn(0, 0, 3, 0, -1), NONE_SUCH);
        due("type 2", x.drawn(0, 0, 0, 2, -1), NONE_SUCH);
        due("nothing was tried", x.told(10), 0);
        due("no counter came of it", x.counter(0, -1), NONE_SUCH);
    }

    private static void told() {
        part = "promise 10";
        Maker m = new Maker();
        PropertyTests x = m.x;
        for (int bad : new int[] {-1, 11, MIN, MAX}) {
            due("told(" + bad + ")", x.told(bad), BAD);
        }
        x.property(0, -1, -1, m.of(BELOW, m.input(0), m.whole(2)), m.of(BELOW, m.whole(-3), m.input(0)), -1, 0);
        int seed = 17;
        int held = 0;
        int dropped = 0;
        int c = 0;
        while (drawnByTest(seed, c, 0, 0, -1) > -3) {
            if (drawnByTest(seed, c, 0, 0, -1) < 2) {
                held++;
            } else {
                dropped++;
            }
            c++;
        }
        due("run", x.run(0, 100, seed), 0);
        int v = drawnByTest(seed, c, 0, 0, -1);
        int tried = 3;
        int taken = 0;
        while (v < -3) {
            tried += v / 2 <= -3 ? 2 : 3;
            v = v / 2 <= -3 ? v / 2 : v + 1;
            taken++;
        }
        int[] want = {c + 1, held, dropped, FALSE, c, tried, taken, 1, 6, 1, c + 1 + tried};
        for (int what = 0; what <= 10; what++) {
            due("told(" + what + ")", x.told(what), want[what]);
        }
        x.property(-1, -1, -1, -1, m.whole(1), -1, 0);
        due("all hold", x.run(1, 7, 0), 1);
        int[] after = {7, 7, 0, 0, -1, 0, 0, 0, 7, 2, c + 1 + tried + 7};
        for (int what = 0; what <= 10; what++) {
            due("told(" + what + ") afterwards", x.told(what), after[what]);
        }
    }

    private static void label() {
        part = "promise 11";
        Maker m = new Maker();
        PropertyTests x = m.x;
        for (int bad : new int[] {-1, 9, MIN, MAX}) {
            due("label(" + bad + ")", x.label(bad), BAD);
        }
        int odd = m.of(PLUS, m.of(PLUS, m.input(0), m.input(0)), m.whole(3));
        x.property(0, -1, -1, -1, m.whole(1), odd, 0);
        due("all small", x.small(0, 3), 1);
        // 3, 5, 1, 7, -1, 9, -3.
        int[] want = {0, 1, 0, 1, 0, 1, 0, 1, 3};
        for (int l = 0; l <= 8; l++) {
            due("label(" + l + ")", x.label(l), want[l]);
        }
        int[] others = {m.row(1), m.nothing(), m.throwing(DIVISION), m.whole(8), m.whole(-1), m.whole(MIN)};
        for (int other : others) {
            int p = x.property(-1, -1, -1, -1, m.whole(1), other, 0);
            due("a run", x.run(p, 3, 0), 1);
            due("counted for 8", x.label(8), 3);
        }
        m = new Maker();
        int zero = m.whole(0);
        m.x.property(0, -1, -1, m.input(0), m.whole(1), zero, 0);
        due("all small", m.x.small(0, 2), 1);
        due("dropped ones have no label", m.x.label(0), 4);
        m.x.property(0, -1, -1, -1, m.of(QUOTIENT, m.whole(1), m.input(0)), m.whole(7), DIVISION);
        due("fails at 1", m.x.small(1, 2), 0);
        due("those that held by a throw have one", m.x.label(7), 1);
        due("forgotten", m.x.label(0), 0);
        m.x.property(0, -1, -1, -1, zero, m.whole(7), 0);
        due("fails", m.x.run(2, 5, 0), 0);
        due("those that fail have none", m.x.label(7), 0);
        due("refused", m.x.run(2, 0, 0), BAD);
        m.x.property(0, -1, -1, -1, m.whole(1), -1, 0);
        due("without a label", m.x.run(3, 5, 0), 1);
        for (int l = 0; l <= 8; l++) {
            due("label(" + l + ")", m.x.label(l), 0);
        }
    }

    private static void refusedChangesNothing() {
        part = "what is refused";
        Maker m = new Maker();
        PropertyTests x = m.x;
        x.property(1, 0, 1, m.of(BELOW, m.input(1), m.whole(5)),
            m.of(BELOW, m.of(LENGTH, m.of(JOIN, m.input(0), m.input(2))), m.whole(3)), m.input(1), 0);
        due("fails", x.run(0, 60, 8), 0);
        int[] before = snapshot(x);
        due("term", x.term(21, 0, 0, 0, 0), BAD);
        due("term", x.term(PLUS, 0, 99, 0, 0), BAD);
        due("property", x.property(0, 0, 0, 0, 0, 0, 9), BAD);
        due("run", x.run(0, 0, 0), BAD);
        due("run", x.run(1, 9, 0), BAD);
        due("small", x.small(0, 4), BAD);
        due("small, above 3000", x.small(0, 3), FULL);
        due("small", x.small(-1, 0), BAD);
        due("many", x.many(0, -1), BAD);
        x.drawn(5, 11, 0, 1, -1);
        due("nothing changed", Arrays.equals(before, snapshot(x)) ? 1 : 0, 1);
    }

    /** Each case of a seed is the same, whatever ran before, or beside in another object. */
    private static void seedsAlone() {
        part = "seeds";
        PropertyTests x = sixInts();
        PropertyTests y = sixInts();
        x.run(0, 40, 335);
        y.run(0, 40, 9);
        y.small(0, 2);
        x.drawn(1, 2, 0, 1, -1);
        y.run(0, 40, 335);
        int[] one = snapshot(x);
        int[] other = snapshot(y);
        one[10] = 0;
        other[10] = 0;
        due("the same", Arrays.equals(one, other) ? 1 : 0, 1);
    }
}
