import java.util.ArrayList;
import java.util.List;

/**
 * "What is refused changes nothing": of two objects that had the same calls, one gets every call that is
 * refused, and calls that only ask; then both must answer all calls alike, those that ask at once and
 * those that add, run and try afterwards.
 */
public final class RefusedTests {
    private static final int BAD = Subject.BAD, FULL = Subject.FULL, NONE_SUCH = Subject.NONE_SUCH;
    private static final int MIN = Subject.MIN, MAX = Subject.MAX;

    /** What both objects have behind them. */
    private interface State {
        Subject make();
    }

    public static void main(String[] args) {
        state("a new object", RefusedTests::fresh);
        state("terms, no property", RefusedTests::termsOnly);
        state("properties, no try", RefusedTests::withProperties);
        state("a run that failed", RefusedTests::runFailed);
        state("all small that failed", RefusedTests::smallFailed);
        state("a run that held", RefusedTests::runHeld);
        state("all small that held", RefusedTests::smallHeld);
        state("a run that was dropped", RefusedTests::runDropped);
        state("60 terms", RefusedTests::sixtyTerms);
        state("8 properties", RefusedTests::eightProperties);
        state("60 terms and 8 properties", RefusedTests::bothFull);
        state("2801 tries and a counter", () -> tries(2801, true));
        state("2999 tries and a counter", () -> tries(2999, true));
        state("3000 tries and a counter", () -> tries(3000, true));
        state("2801 tries and no counter", () -> tries(2801, false));
        state("3000 tries and no counter", () -> tries(3000, false));
        Check.end();
    }

    private static Subject fresh() {
        return new Subject();
    }

    /** Terms 0 .. 8; 8 is a body for a row as input 0 and a whole as input 1. */
    private static Subject termsOnly() {
        Subject s = new Subject();
        int row = s.input(0);
        int v = s.input(1);
        s.whole(1);
        s.whole(0);
        int sum = s.of(Subject.SUM, row);
        int all = s.of(Subject.PLUS, sum, v);
        int three = s.whole(3);
        s.of(Subject.LENGTH, row);
        s.of(Subject.BELOW, all, three);
        return s;
    }

    /** 0 fails from a sum of 3 on, 1 holds, 2 is dropped, 3 should throw and doesn't. */
    private static Subject withProperties() {
        Subject s = termsOnly();
        s.property(1, 0, -1, -1, 8, 7, 0);
        s.property(0, 0, 1, -1, 2, 2, 0);
        s.property(1, -1, 0, 3, 8, 7, 0);
        s.property(1, 0, -1, 2, 2, 7, Subject.INDEX);
        return s;
    }

    private static Subject runFailed() {
        Subject s = withProperties();
        Check.due("a run that fails", s.run(0, 150, 12), 0);
        return s;
    }

    private static Subject smallFailed() {
        Subject s = withProperties();
        Check.due("all small that fails", s.small(0, 2), 0);
        return s;
    }

    private static Subject runHeld() {
        Subject s = runFailed();
        Check.due("a run that holds", s.run(1, 15, 12), 1);
        return s;
    }

    private static Subject smallHeld() {
        Subject s = runFailed();
        Check.due("all small that holds", s.small(1, 1), 1);
        return s;
    }

    private static Subject runDropped() {
        Subject s = smallFailed();
        Check.due("a run that is dropped", s.run(2, 30, 12), 2);
        return s;
    }

    private static Subject sixtyTerms() {
        Subject s = runFailed();
        for (int t = 9; t < 60; t++) {
            Check.due("term", s.whole(t), t);
        }
        return s;
    }

    private static Subject eightProperties() {
        Subject s = runFailed();
        for (int p = 4; p < 8; p++) {
            Check.due("property", s.property(1, 0, 1, -1, 8, p, 0), p);
        }
        return s;
    }

    private static Subject bothFull() {
        Subject s = eightProperties();
        for (int t = 9; t < 60; t++) {
            Check.due("term", s.of(Subject.PLUS, 2, t - 1), t);
        }
        return s;
    }

    private static Subject tries(int tries, boolean counter) {
        Subject s = withProperties();
        int single = s.property(-1, -1, -1, -1, 2, 2, 0);
        int pairs = s.property(0, 0, -1, -1, 2, 2, 0);
        int made = 0;
        for (; made < 2800; made += 200) {
            Check.due("200 tries", s.run(single, 200, made), 1);
        }
        for (; made + 49 < tries; made += 49) {
            Check.due("49 tries", s.small(pairs, 3), 1);
        }
        for (; made + 1 < tries; made++) {
            Check.due("one try", s.small(single, 0), 1);
        }
        int last = counter ? s.property(-1, -1, -1, -1, 3, 2, 0) : single;
        Check.due("the last try", s.small(last, 0), counter ? 0 : 1);
        Check.due("tries", s.told(10), tries);
        return s;
    }

    private static void state(String name, State state) {
        Check.sentence("What is refused changes nothing: " + name);
        for (int group = 0; group < GROUPS; group++) {
            Subject one = state.make();
            Subject other = state.make();
            List<Integer> before = asked(one);
            refuse(one, group);
            Check.must("all answers as before, " + group, before.equals(asked(one)));
            Check.must("all answers as of the other, " + group, before.equals(asked(other)));
            Check.must("all that comes afterwards, " + group, afterwards(one).equals(afterwards(other)));
        }
    }

    /** Each group of refused calls by itself, so that none of them can undo what another did. */
    private static final int GROUPS = 11;

    private static void refuse(Subject s, int group) {
        switch (group) {
            case 0: badTerms(s); break;
            case 1: badParts(s); break;
            case 2: fullTerms(s); break;
            case 3: badProperties(s); break;
            case 4: fullProperties(s); break;
            case 5: badRuns(s); break;
            case 6: fullRuns(s); break;
            case 7: badSmall(s); break;
            case 8: fullSmall(s); break;
            case 9: noAgain(s); break;
            default: onlyAsked(s); break;
        }
    }

    private static void badTerms(Subject s) {
        for (int what : new int[] {MIN, -1, 21, MAX}) {
            Check.due("term of " + what, s.term(what, 0, 0, 0, 0), BAD);
        }
        for (int n : new int[] {MIN, -1, 3, MAX}) {
            Check.due("input " + n, s.term(Subject.INPUT, 0, 0, 0, n), BAD);
        }
    }

    private static void badParts(Subject s) {
        int next = s.told(8);
        for (int what = Subject.PLUS; what <= Subject.BOTH; what++) {
            for (int bad : new int[] {-1, next}) {
                int parts = Subject.PART_COUNT[what];
                Check.due("a of " + what, s.term(what, bad, 0, 0, 0), BAD);
                if (parts > 1) {
                    Check.due("b of " + what, s.term(what, 0, bad, 0, 0), BAD);
                }
                if (parts > 2) {
                    Check.due("c of " + what, s.term(what, 0, 0, bad, 0), BAD);
                }
            }
        }
    }

    private static void fullTerms(Subject s) {
        if (s.told(8) == 60) {
            for (int what = 0; what <= 20; what++) {
                Check.due("term of " + what, s.term(what, 1, 2, 3, 2), FULL);
            }
        }
    }

    private static void badProperties(Subject s) {
        int next = s.told(8);
        int body = next > 0 ? 0 : -1;
        for (int bad : new int[] {MIN, -2, 2, MAX}) {
            Check.due("first " + bad, s.property(bad, 1, 0, -1, body, -1, 1), BAD);
            Check.due("second " + bad, s.property(0, bad, 1, -1, body, -1, 1), BAD);
            Check.due("third " + bad, s.property(1, 0, bad, -1, body, -1, 1), BAD);
        }
        for (int bad : new int[] {MIN, -2, next, MAX}) {
            Check.due("condition " + bad, s.property(0, 1, 0, bad, body, -1, 2), BAD);
            Check.due("body " + bad, s.property(0, 1, 0, -1, bad, -1, 2), BAD);
            Check.due("label " + bad, s.property(0, 1, 0, -1, body, bad, 2), BAD);
        }
        Check.due("body -1", s.property(0, 1, 0, -1, -1, -1, 2), BAD);
        for (int bad : new int[] {MIN, -1, 8, MAX}) {
            Check.due("expected " + bad, s.property(0, 1, 0, -1, body, -1, bad), BAD);
        }
    }

    private static void fullProperties(Subject s) {
        if (s.told(9) == 8) {
            Check.due("a ninth", s.property(-1, -1, -1, 2, 3, 2, 7), FULL);
            Check.due("a ninth", s.property(1, 1, 1, -1, 2, -1, 0), FULL);
        }
    }

    private static void badRuns(Subject s) {
        int next = s.told(9);
        for (int bad : new int[] {MIN, -1, next, 8, MAX}) {
            Check.due("run of property " + bad, s.run(bad, 5, 1), BAD);
        }
        for (int bad : new int[] {MIN, -1, 0, 201, MAX}) {
            Check.due("run of " + bad, s.run(0, bad, 1), BAD);
        }
    }

    private static void fullRuns(Subject s) {
        if (s.told(10) > 2800) {
            for (int p = 0; p < s.told(9); p++) {
                Check.due("run of 1", s.run(p, 1, 1), FULL);
                Check.due("run of 200", s.run(p, 200, 1), FULL);
            }
        }
    }

    private static void badSmall(Subject s) {
        int next = s.told(9);
        for (int bad : new int[] {MIN, -1, next, 8, MAX}) {
            Check.due("small of property " + bad, s.small(bad, 1), BAD);
            Check.due("many of property " + bad, s.many(bad, 1), BAD);
        }
        for (int bad : new int[] {MIN, -1, 4, MAX}) {
            Check.due("small of " + bad, s.small(0, bad), BAD);
            Check.due("many of " + bad, s.many(0, bad), BAD);
        }
    }

    private static void fullSmall(Subject s) {
        int tries = s.told(10);
        for (int p = 0; p < s.told(9); p++) {
            for (int m = 0; m <= 3; m++) {
                int many = s.many(p, m);
                if (many == -2 || tries + many > 3000) {
                    Check.due("small of " + p + ", " + m, s.small(p, m), FULL);
                }
            }
        }
    }

    private static void noAgain(Subject s) {
        if (s.told(3) == 0) {
            Check.due("again", s.again(), -2);
            Check.due("again", s.again(), -2);
        } else if (s.told(10) == 3000) {
            Check.due("again", s.again(), -3);
            Check.due("again", s.again(), -3);
        }
    }

    private static void onlyAsked(Subject s) {
        for (int bad : new int[] {MIN, -1, 3, MAX}) {
            Check.due("counter of input " + bad, s.counter(bad, -1), NONE_SUCH);
            Check.due("drawn of input " + bad, s.drawn(1, 5, bad, 1, -1), NONE_SUCH);
        }
        for (int bad : new int[] {MIN, -2, 16, MAX}) {
            Check.due("int " + bad, s.counter(0, bad), NONE_SUCH);
            Check.due("int " + bad, s.drawn(1, 11, 0, 1, bad), NONE_SUCH);
        }
        for (int bad : new int[] {MIN, -1, 200, MAX}) {
            Check.due("case " + bad, s.drawn(1, bad, 0, 1, -1), NONE_SUCH);
        }
        for (int bad : new int[] {MIN, -1, 2, MAX}) {
            Check.due("type " + bad, s.drawn(1, 11, 0, bad, -1), NONE_SUCH);
        }
        for (int i = 0; i < 3; i++) {
            s.drawn(77, 11, i, 0, -1);
            s.drawn(77, 23, i, 1, 0);
        }
        for (int bad : new int[] {MIN, -1, 11, MAX}) {
            Check.due("told(" + bad + ")", s.told(bad), BAD);
            Check.due("label(" + bad + ")", s.label(bad), BAD);
        }
    }

    /** Calls that only ask: 72 at most. */
    private static List<Integer> asked(Subject s) {
        List<Integer> all = new ArrayList<>();
        for (int what = 0; what <= 10; what++) {
            all.add(s.told(what));
        }
        for (int l = 0; l <= 8; l++) {
            all.add(s.label(l));
        }
        for (int i = 0; i < 3; i++) {
            for (int k = -1; k < 4; k++) {
                all.add(s.counter(i, k));
            }
        }
        for (int p = 0; p < 9; p++) {
            for (int m = 0; m <= 3; m++) {
                all.add(s.many(p, m));
            }
        }
        return all;
    }

    /** All that there is is tried, then more is added and tried, with what it leaves. */
    private static List<Integer> afterwards(Subject s) {
        List<Integer> all = new ArrayList<>();
        all.add(s.again());
        tryAll(s, all);
        all.add(s.term(Subject.WHOLE, 0, 0, 0, 2));
        all.add(s.term(Subject.INPUT, 0, 0, 0, 2));
        all.add(s.term(Subject.LIKE, s.told(8) - 1, s.told(8) - 2, 0, 0));
        all.add(s.property(-1, -1, 0, -1, s.told(8) - 1, s.told(8) - 2, 0));
        int p = s.told(9) - 1;
        all.add(s.run(p, 40, 3));
        all.add(s.small(p, 0));
        all.addAll(asked(s));
        return all;
    }

    private static void tryAll(Subject s, List<Integer> all) {
        for (int p = 0; p < 8; p++) {
            all.add(s.run(p, 12, 40 + p));
            for (int what : new int[] {0, 1, 2, 3, 4, 5, 10}) {
                all.add(s.told(what));
            }
            all.add(s.small(p, 1));
            all.add(s.told(4));
            all.add(s.counter(0, -1));
            all.add(s.label(8));
        }
    }
}
