/**
 * Each sentence of the document on PROPERTIES and on a TRY (its STEPS, its OUTCOME, its LABEL) that names
 * an edge, at the edge and on either side of it.
 */
public final class TryEdgeTests {
    private static final int BAD = Subject.BAD, FULL = Subject.FULL, MIN = Subject.MIN, MAX = Subject.MAX;
    private static final int DROPPED = Subject.DROPPED, HOLDS = Subject.HOLDS, FALSE = Subject.FALSE;
    private static final int NULL = Subject.NULL, SIZE = Subject.SIZE, KIND = Subject.KIND, SPENT = Subject.SPENT;
    private static final int DIVISION = Subject.DIVISION, UNTHROWN = Subject.UNTHROWN;

    public static void main(String[] args) {
        eightProperties();
        types();
        noneIsNothing();
        conditionIsATerm();
        bodyIsATerm();
        labelIsATerm();
        expectedThrow();
        sixtySteps();
        sixtyStepsOfEachKind();
        deepSteps();
        eachTimeAgain();
        notWorkedIsNoStep();
        sixtyInATry();
        spentAheadOfOthers();
        eachTryAfresh();
        conditionThrows();
        conditionNoWhole();
        conditionZero();
        bodyThrows();
        bodyNoWhole();
        bodyWhole();
        unthrown();
        labelsCounted();
        labelsOfAllElse();
        labelsWhereItHolds();
        Check.end();
    }

    private static void eightProperties() {
        Check.sentence("PROPERTIES, 8 at most");
        Subject s = new Subject();
        s.whole(1);
        for (int p = 0; p < 8; p++) {
            Check.due("property " + p + " ahead of it", s.small(p, 0), BAD);
            Check.due("property " + p, s.property(-1, -1, -1, -1, 0, -1, 0), p);
            Check.due("properties", s.told(9), p + 1);
            Check.due("property " + p + " behind it", s.small(p, 0), 1);
        }
        for (int again = 0; again < 2; again++) {
            Check.due("the ninth", s.property(-1, -1, -1, -1, 0, -1, 0), FULL);
            Check.due("properties", s.told(9), 8);
        }
        Check.due("no property 8", s.small(8, 0), BAD);
        Check.due("a bad one where there is no room", s.property(2, -1, -1, -1, 0, -1, 0), BAD);
        Check.due("a bad one where there is no room", s.property(-1, -1, -1, -1, 1, -1, 0), BAD);
    }

    private static void types() {
        Check.sentence("TYPES of INPUTS 0 .. 2 (0 WHOLE, 1 ROW, -1 none): BAD: TYPES -1 .. 1");
        for (int i = 0; i < 3; i++) {
            Subject s = new Subject();
            s.whole(1);
            for (int bad : new int[] {MIN, -3, -2, 2, 3, MAX}) {
                int[] t = {0, 0, 0};
                t[i] = bad;
                Check.due("type " + bad + " of input " + i, s.property(t[0], t[1], t[2], -1, 0, -1, 0), BAD);
                Check.due("properties", s.told(9), 0);
            }
            for (int good = -1; good <= 1; good++) {
                int[] t = {0, 0, 0};
                t[i] = good;
                Check.due("type " + good + " of input " + i, s.property(t[0], t[1], t[2], -1, 0, -1, 0), good + 1);
                Check.due("many of it", s.many(good + 1, 2), 25 * (good == -1 ? 1 : good == 0 ? 5 : 31));
            }
        }
    }

    private static void noneIsNothing() {
        Check.sentence("-1 none: NOTHING");
        for (int i = 0; i < 3; i++) {
            for (int type = 0; type <= 1; type++) {
                Subject s = new Subject();
                int[] t = {type, type, type};
                s.typed(t[0], t[1], t[2], s.whole(1));
                t[i] = -1;
                s.typed(t[0], t[1], t[2], s.input(i));
                // What the inputs of another property were must not be seen.
                Check.due("all small of another", s.small(0, 1), 1);
                Check.due("all small", s.small(1, 1), 0);
                Check.due("its outcome", s.told(3), NULL);
                Check.due("no input " + i, s.counter(i, -1), Subject.NONE_SUCH);
                Check.due("a run of another", s.run(0, 30, 1), 1);
                Check.due("a run", s.run(1, 1, 2), 0);
                Check.due("its outcome", s.told(3), NULL);
                Check.due("no input " + i, s.counter(i, -1), Subject.NONE_SUCH);
                Check.due("again", s.again(), NULL);
            }
        }
    }

    private static void termOfAProperty(int which, boolean mayBeNone) {
        Subject s = new Subject();
        int[] t = {-1, 0, -1};
        Check.due("without terms", s.property(0, 0, 0, -1, 0, -1, 0), BAD);
        for (int number = 0; number < 3; number++) {
            s.whole(1);
        }
        for (int bad : new int[] {MIN, -3, -2, 3, 4, 59, 60, MAX}) {
            t[which] = bad;
            Check.due("term " + bad, s.property(0, 0, 0, t[0], t[1], t[2], 0), BAD);
            Check.due("properties", s.told(9), 0);
        }
        t[which] = -1;
        Check.due("term -1", s.property(0, 0, 0, t[0], t[1], t[2], 0), mayBeNone ? 0 : BAD);
        int next = s.told(9);
        Check.due("properties", next, mayBeNone ? 1 : 0);
        for (int good = 0; good < 3; good++) {
            t[which] = good;
            Check.due("term " + good, s.property(0, 0, 0, t[0], t[1], t[2], 0), next + good);
        }
        for (int number = 3; number < 60; number++) {
            s.whole(1);
        }
        t[which] = 59;
        Check.due("term 59", s.property(0, 0, 0, t[0], t[1], t[2], 0), next + 3);
        t[which] = 60;
        Check.due("term 60", s.property(0, 0, 0, t[0], t[1], t[2], 0), BAD);
    }

    private static void conditionIsATerm() {
        Check.sentence("a CONDITION (a TERM, or -1)");
        termOfAProperty(0, true);
        Subject s = new Subject();
        int zero = s.whole(0);
        int one = s.whole(1);
        Check.due("term 0 as the condition", s.outcomeOf(s.plain(zero, one, -1, 0)), DROPPED);
        Check.due("no condition", s.outcomeOf(s.plain(-1, one, -1, 0)), HOLDS);
    }

    private static void bodyIsATerm() {
        Check.sentence("a BODY");
        termOfAProperty(1, false);
    }

    private static void labelIsATerm() {
        Check.sentence("a LABEL (a TERM, or -1)");
        termOfAProperty(2, true);
        Subject s = new Subject();
        int five = s.whole(5);
        s.plain(-1, five, five, 0);
        s.plain(-1, five, -1, 0);
        s.small(0, 0);
        Check.due("term 0 as the label", s.label(5), 1);
        s.small(1, 0);
        for (int l = 0; l <= 8; l++) {
            Check.due("no label", s.label(l), 0);
        }
    }

    private static void expectedThrow() {
        Check.sentence("an EXPECTED throw (0: none); expected 0 .. 7");
        Subject s = new Subject();
        s.whole(1);
        for (int bad : new int[] {MIN, -2, -1, 8, 9, MAX}) {
            Check.due("expected " + bad, s.property(-1, -1, -1, -1, 0, -1, bad), BAD);
            Check.due("properties", s.told(9), 0);
        }
        for (int good = 0; good <= 7; good++) {
            Check.due("expected " + good, s.property(-1, -1, -1, -1, 0, -1, good), good);
            Check.due("its outcome", s.outcomeOf(good), good == 0 ? HOLDS : UNTHROWN);
        }
    }

    private static void sixtySteps() {
        Check.sentence("more than 60 in a TRY: 7 SPENT");
        for (int steps : new int[] {1, 3, 58, 59, 60, 61, 62, 63}) {
            Subject s = new Subject();
            Check.due(steps + " steps", s.outcome(s.one(steps)), steps <= 60 ? HOLDS : SPENT);
        }
    }

    /** Each term as the first of 59, 60, 61 steps; a throw that is its own comes only if it isn't spent. */
    private static void sixtyStepsOfEachKind() {
        Check.sentence("each TERM that begins to be worked is a STEP");
        for (int what = 3; what <= 20; what++) {
            int parts = Subject.PART_COUNT[what];
            int worked = what == Subject.IF ? 2 : parts;
            for (int steps = 59; steps <= 61; steps++) {
                Subject s = new Subject();
                int[] p = {s.one(1), s.one(1), s.one(1)};
                p[what == Subject.IF ? 1 : parts - 1] = s.one(steps - worked);
                int outcome = s.outcome(s.of(what, p));
                if (steps > 60) {
                    Check.due(steps + " steps of " + what, outcome, SPENT);
                } else {
                    Check.must(steps + " steps of " + what, outcome == HOLDS || outcome == FALSE || outcome == KIND);
                }
            }
        }
        for (int what = 0; what <= 2; what++) {
            for (int steps = 59; steps <= 61; steps++) {
                Subject s = new Subject();
                int last = s.term(what, 0, 0, 0, 1);
                s.property(-1, 0, -1, -1, s.of(Subject.IF, s.one(steps - 2), last, last), -1, 0);
                s.small(0, 0);
                int due = what == 2 ? NULL : what == 0 ? FALSE : HOLDS;
                Check.due(steps + " steps, " + what + " the last", s.told(3), steps > 60 ? SPENT : due);
            }
        }
    }

    private static void deepSteps() {
        Check.sentence("60 TERMS, each the part of the next, are 60 STEPS");
        for (int top : new int[] {58, 59}) {
            Subject s = new Subject();
            int made = s.zeros(1);
            while (made < top - 1) {
                made = s.of(made % 2 == 0 ? Subject.TURNED : Subject.SORTED, made);
            }
            Check.due("the last", s.of(Subject.LENGTH, made), top);
            Check.due("its outcome", s.outcome(top), HOLDS);
        }
        Subject s = new Subject();
        int made = s.zeros(1);
        while (made < 58) {
            made = s.of(Subject.TURNED, made);
        }
        Check.due("the last", s.of(Subject.JOIN, made, 0), 59);
        Check.due("61 steps", s.outcome(59), SPENT);
        Check.due("condition and body, 59 and 1: the condition is a row", s.outcomeOf(s.plain(58, 0, -1, 0)), KIND);
    }

    private static void eachTimeAgain() {
        Check.sentence("one that is a part of several each time again");
        Subject s = new Subject();
        int made = s.whole(1);
        // 3, 7, 15, 31 and 63 steps by 5 terms of which each has the one before it twice.
        for (int i = 0; i < 5; i++) {
            made = s.of(Subject.PLUS, made, made);
            Check.due("doubled", s.outcome(made), i < 4 ? HOLDS : SPENT);
        }
        s = new Subject();
        int nineteen = s.one(19);
        int row = s.of(Subject.ZEROS, nineteen);
        // PUT of a row in 20 steps at an index in 19: 40 + c's.
        int index = s.of(Subject.MINUS, s.one(17), s.one(1));
        for (int steps : new int[] {18, 19, 20, 21}) {
            int put = s.of(Subject.PUT, row, index, s.one(steps));
            int due = 40 + steps <= 60 ? KIND : SPENT;
            Check.due("put in " + (40 + steps) + " steps", s.outcome(put), due);
        }
    }

    private static void notWorkedIsNoStep() {
        Check.sentence("just that is worked; b is not worked then");
        for (int steps : new int[] {55, 56, 57, 58, 59}) {
            Subject s = new Subject();
            int one = s.one(1);
            int long58 = s.one(58);
            int zero = s.whole(0);
            int due = steps + 2 <= 60 ? HOLDS : SPENT;
            Check.due("if", s.outcome(s.of(Subject.IF, one, s.one(steps), long58)), due);
            Check.due("else", s.outcome(s.of(Subject.IF, zero, long58, s.one(steps))), due);
            int longZero = s.of(Subject.MINUS, s.one(steps - 2), one);
            Check.due("both, b not worked", s.outcome(s.of(Subject.BOTH, longZero, long58)),
                steps + 1 <= 60 ? FALSE : SPENT);
            Check.due("both, b worked", s.outcome(s.of(Subject.BOTH, s.one(steps), one)), due);
            Check.due("both, b too long", s.outcome(s.of(Subject.BOTH, one, s.one(61))), SPENT);
        }
    }

    private static int stepsOf(Subject s, int steps) {
        return steps == 0 ? -1 : s.one(steps);
    }

    private static void sixtyInATry() {
        Check.sentence("more than 60 in a TRY: CONDITION, BODY and LABEL (its STEPS go on from those before)");
        int[] some = {0, 1, 3, 15, 19, 20, 21, 29, 30, 31, 57, 58, 59, 60, 61};
        for (int condition : some) {
            for (int body : some) {
                for (int label : some) {
                    if (body != 0) {
                        tryOf(condition, body, label);
                    }
                }
            }
        }
        Subject s = new Subject();
        int boom = s.throwing(DIVISION);
        for (int steps = 56; steps <= 58; steps++) {
            int p = s.plain(-1, boom, s.one(steps), DIVISION);
            Check.due("a body of 3 steps that throws as expected", s.outcomeOf(p), HOLDS);
            Check.due("a label of " + steps, s.label(1), steps <= 57 ? 1 : 0);
            Check.due("a label of " + steps, s.label(8), steps <= 57 ? 0 : 1);
        }
        s = new Subject();
        int p = s.plain(-1, s.one(61), s.one(1), SPENT);
        Check.due("spent, as expected", s.outcomeOf(p), HOLDS);
        Check.due("a label behind that", s.label(8), 1);
        Check.due("a label behind that", s.label(1), 0);
        Check.due("a condition that is spent, the body should be",
            s.outcomeOf(s.plain(s.one(61), s.one(61), -1, SPENT)), SPENT);
    }

    private static void tryOf(int condition, int body, int label) {
        Subject s = new Subject();
        int p = s.plain(stepsOf(s, condition), s.one(body), stepsOf(s, label), 0);
        String call = condition + ", " + body + " and " + label + " steps";
        boolean spent = condition + body > 60;
        Check.due(call, s.outcomeOf(p), spent ? SPENT : HOLDS);
        boolean labelled = !spent && label != 0;
        boolean late = condition + body + label > 60;
        Check.due(call + ", label 1", s.label(1), labelled && !late ? 1 : 0);
        Check.due(call + ", label 8", s.label(8), labelled && late ? 1 : 0);
    }

    private static void spentAheadOfOthers() {
        Check.sentence("more than 60 in a TRY: the 61st STEP throws 7, whatever it would have come to");
        for (int steps = 56; steps <= 59; steps++) {
            Subject s = new Subject();
            int boom = s.throwing(DIVISION);
            // IF, its condition, then the quotient and its two parts.
            int body = s.of(Subject.IF, s.one(steps), boom, boom);
            Check.due("a division behind " + (steps + 1), s.outcome(body), steps + 4 <= 60 ? DIVISION : SPENT);
            int row = s.of(Subject.IF, s.one(steps), s.nothing(), boom);
            Check.due("nothing behind " + (steps + 1), s.outcome(row), steps + 2 <= 60 ? NULL : SPENT);
        }
    }

    private static void eachTryAfresh() {
        Check.sentence("more than 60 in a TRY: each TRY begins with none");
        Subject s = new Subject();
        int p = s.plain(s.one(20), s.one(20), s.one(20), 0);
        Check.due("a run of 200, 60 steps each", s.run(p, 200, 1), 1);
        Check.due("all labelled", s.label(1), 200);
        Check.due("all small", s.small(p, 3), 1);
        Check.due("labelled", s.label(1), 1);
        // Fails with FALSE in 60 steps, so each candidate has 60, and again() too.
        s = new Subject();
        int small = s.of(Subject.BELOW, s.input(0), s.whole(1));
        int zero = s.of(Subject.MINUS, s.one(54), s.one(1));
        // IF 1, BELOW 3, then 1 (one step) or 0 in 56 steps: 60 for what fails.
        s.typed(0, -1, -1, s.of(Subject.IF, small, s.one(1), zero));
        Check.due("a run", s.run(0, 50, 6), 0);
        Check.due("false", s.told(3), FALSE);
        Check.due("the smallest", s.counter(0, -1), 1);
        Check.due("again", s.again(), FALSE);
        Check.due("again", s.again(), FALSE);
    }

    private static void conditionThrows() {
        Check.sentence("with a CONDITION: it throws k: the OUTCOME is k");
        for (int k = 1; k <= 7; k++) {
            Subject s = new Subject();
            int boom = s.throwing(k);
            int one = s.whole(1);
            Check.due("throws " + k, s.outcomeOf(s.plain(boom, one, one, 0)), k);
            Check.due("throws " + k + ", expected of the body", s.outcomeOf(s.plain(boom, one, one, k)), k);
            Check.due("throws " + k + ", and the body too", s.outcomeOf(s.plain(boom, boom, one, k)), k);
            Check.due("neither held", s.told(1), 0);
            Check.due("nor dropped", s.told(2), 0);
            Check.due("nor labelled", s.label(1), 0);
        }
    }

    private static void conditionNoWhole() {
        Check.sentence("it comes to a ROW, NOTHING: 4, 1");
        Subject s = new Subject();
        int one = s.whole(1);
        int row = s.zeros(0);
        int nothing = s.nothing();
        Check.due("an empty row", s.outcomeOf(s.plain(row, one, -1, 0)), KIND);
        Check.due("a row, 4 expected", s.outcomeOf(s.plain(row, row, -1, KIND)), KIND);
        Check.due("16 ints", s.outcomeOf(s.plain(s.zeros(16), one, -1, 0)), KIND);
        Check.due("nothing", s.outcomeOf(s.plain(nothing, one, -1, 0)), NULL);
        Check.due("nothing, 1 expected", s.outcomeOf(s.plain(nothing, nothing, -1, NULL)), NULL);
        Check.due("an input of no type", s.outcomeOf(s.plain(s.input(2), one, -1, 0)), NULL);
    }

    private static void conditionZero() {
        Check.sentence("to 0: DROPPED (-1)");
        for (int number : new int[] {MIN, -1, 0, 1, MAX}) {
            Subject s = new Subject();
            int condition = s.whole(number);
            int boom = s.throwing(SIZE);
            int three = s.whole(3);
            boolean zero = number == 0;
            Check.due(number + ", a body that throws", s.outcomeOf(s.plain(condition, boom, -1, 0)),
                zero ? DROPPED : SIZE);
            Check.due("dropped", s.told(2), zero ? 1 : 0);
            Check.due("tried", s.told(0), 1);
            Check.due(number + ", a body that holds", s.outcomeOf(s.plain(condition, three, three, 0)),
                zero ? DROPPED : HOLDS);
            Check.due("held", s.told(1), zero ? 0 : 1);
            Check.due("labelled", s.label(3), zero ? 0 : 1);
            Check.due("a try", s.told(10), 2);
        }
    }

    private static void bodyThrows() {
        Check.sentence("the BODY: it throws k: 0 HOLDS, if k is EXPECTED, else k");
        for (int k = 1; k <= 7; k++) {
            for (int expected = 0; expected <= 7; expected++) {
                Subject s = new Subject();
                int p = s.plain(-1, s.throwing(k), -1, expected);
                Check.due(k + " where " + expected + " is expected", s.outcomeOf(p), k == expected ? HOLDS : k);
                Check.due("held", s.told(1), k == expected ? 1 : 0);
            }
        }
    }

    private static void bodyNoWhole() {
        Check.sentence("a ROW: as if it threw 4, NOTHING: 1");
        for (int expected = 0; expected <= 7; expected++) {
            Subject s = new Subject();
            for (int length : new int[] {0, 1, 16}) {
                Check.due("a row where " + expected + " is expected",
                    s.outcomeOf(s.plain(-1, s.zeros(length), -1, expected)), expected == KIND ? HOLDS : KIND);
            }
            Check.due("nothing where " + expected + " is expected",
                s.outcomeOf(s.plain(-1, s.nothing(), -1, expected)), expected == NULL ? HOLDS : NULL);
            Check.due("an input of no type", s.outcomeOf(s.plain(-1, s.input(0), -1, expected)),
                expected == NULL ? HOLDS : NULL);
        }
    }

    private static void bodyWhole() {
        Check.sentence("else 0 HOLDS, if it is not 0, 9 FALSE, if it is");
        Subject s = new Subject();
        for (int number : new int[] {MIN, -1, 0, 1, MAX}) {
            Check.due("a body of " + number, s.outcome(s.whole(number)), number == 0 ? FALSE : HOLDS);
            Check.due("held", s.told(1), number == 0 ? 0 : 1);
        }
    }

    private static void unthrown() {
        Check.sentence("a WHOLE: 8 UNTHROWN, if a throw is EXPECTED");
        for (int expected = 1; expected <= 7; expected++) {
            Subject s = new Subject();
            for (int number : new int[] {MIN, -1, 0, 1, expected, 8, MAX}) {
                Check.due("a body of " + number, s.outcomeOf(s.plain(-1, s.whole(number), -1, expected)), UNTHROWN);
            }
            Check.due("a condition of 0", s.outcomeOf(s.plain(s.whole(0), s.whole(0), -1, expected)), DROPPED);
        }
    }

    private static void onlyLabel(Subject s, String call, int due, int times) {
        for (int l = 0; l <= 8; l++) {
            Check.due(call + ", label " + l, s.label(l), l == due ? times : 0);
        }
    }

    private static void labelsCounted() {
        Check.sentence("a WHOLE 0 .. 7 is counted for that, all else for 8");
        for (int number : new int[] {MIN, -9, -8, -2, -1, 0, 1, 2, 3, 4, 5, 6, 7, 8, 9, 10, 256, MAX}) {
            Subject s = new Subject();
            int p = s.plain(-1, s.whole(1), s.whole(number), 0);
            s.small(p, 0);
            onlyLabel(s, "a label of " + number, number >= 0 && number <= 7 ? number : 8, 1);
            s.run(p, 200, 0);
            onlyLabel(s, "labels of " + number, number >= 0 && number <= 7 ? number : 8, 200);
        }
    }

    private static void labelsOfAllElse() {
        Check.sentence("all else (a throw, too) for 8");
        for (int k = 1; k <= 7; k++) {
            Subject s = new Subject();
            int p = s.plain(-1, s.whole(1), s.throwing(k), 0);
            Check.due("a label that throws", s.small(p, 0), 1);
            onlyLabel(s, "a throw of " + k, 8, 1);
            p = s.plain(-1, s.throwing(k), s.throwing(k), k);
            Check.due("a body and a label that throw", s.small(p, 0), 1);
            onlyLabel(s, "a throw of " + k, 8, 1);
        }
        Subject s = new Subject();
        int one = s.whole(1);
        int[] labels = {s.zeros(0), s.zeros(1), s.zeros(16), s.nothing(), s.input(1)};
        for (int label : labels) {
            Check.due("a label that is no whole", s.small(s.plain(-1, one, label, 0), 0), 1);
            onlyLabel(s, "no whole", 8, 1);
        }
    }

    private static void labelsWhereItHolds() {
        Check.sentence("Where it HOLDS, and there is a LABEL");
        Subject s = new Subject();
        int one = s.whole(1);
        int zero = s.whole(0);
        int[] without = {s.plain(-1, zero, one, 0), s.plain(-1, one, one, SIZE), s.plain(zero, one, one, 0),
            s.plain(-1, s.nothing(), one, 0), s.plain(s.nothing(), one, one, 0), s.plain(-1, one, -1, 0)};
        for (int p : without) {
            s.small(p, 0);
            onlyLabel(s, "property " + p, -1, 0);
            s.run(p, 3, 9);
            onlyLabel(s, "property " + p, -1, 0);
        }
        s.small(s.plain(-1, s.nothing(), one, NULL), 0);
        onlyLabel(s, "holds by a throw", 1, 1);
        s.small(s.plain(one, one, zero, 0), 0);
        onlyLabel(s, "holds behind a condition", 0, 1);
    }
}
