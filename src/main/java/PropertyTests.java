/** Properties tried on drawn values, as ../shared/DOC.md promises. */
public final class PropertyTests {
    public static final int BAD = -1, FULL = -2;
    public static final int BAD_INPUT = -2147483648;

    private static final int MOST_TERMS = 60, MOST_PROPERTIES = 8, MOST_INTS = 16, MOST_STEPS = 60;
    private static final int MOST_TRIES = 3000, MOST_CASES = 200, MOST_CANDIDATES = 200, MOST_SMALL = 3;
    private static final int INPUTS = 3, LABELS = 9, OTHER_LABEL = 8;

    // Kinds of values bear the numbers of the document's TYPES, so that a type is the kind of its input.
    private static final int NOTHING = -1, WHOLE = 0, ROW = 1;

    private static final int NULL = 1, INDEX = 2, SIZE = 3, KIND = 4, DIVISION = 5, ROOM = 6, SPENT = 7;
    private static final int DROPPED = -1, HOLDS = 0, UNTHROWN = 8, FALSE = 9;

    private static final int NO_COUNTER = -2, NO_TRIES_LEFT = -3;

    private final Worker worker;
    private final Terms terms;
    private final Value[] tried;
    private final Value[] smallest;
    private final Value shown;
    private final Property[] properties;
    private final Tally tally;
    private int propertyCount;
    private int failing;

    public PropertyTests() {
        worker = new Worker();
        terms = worker.terms;
        tried = worker.inputs;
        smallest = newValues(INPUTS);
        shown = new Value();
        properties = new Property[MOST_PROPERTIES];
        for (int i = 0; i < MOST_PROPERTIES; i++) {
            properties[i] = new Property();
        }
        tally = new Tally();
        propertyCount = 0;
        failing = -1;
    }

    public int term(int what, int a, int b, int c, int n) {
        if (!terms.allows(what, n) || !terms.hasParts(what, a, b, c)) {
            return BAD;
        }
        if (terms.count >= MOST_TERMS) {
            return FULL;
        }
        return terms.add(what, a, b, c, n);
    }

    public int property(int first, int second, int third, int condition, int body, int label, int expected) {
        if (!isType(first) || !isType(second) || !isType(third) || expected < 0 || expected > SPENT) {
            return BAD;
        }
        if (!terms.hasOrNone(condition) || !terms.has(body) || !terms.hasOrNone(label)) {
            return BAD;
        }
        if (propertyCount >= MOST_PROPERTIES) {
            return FULL;
        }
        Property made = properties[propertyCount];
        made.setTypes(first, second, third);
        made.setTerms(condition, body, label, expected);
        propertyCount++;
        return propertyCount - 1;
    }

    public int run(int property, int n, int seed) {
        if (!isProperty(property) || n < 1 || n > MOST_CASES) {
            return BAD;
        }
        if (worker.tries + n + MOST_CANDIDATES > MOST_TRIES) {
            return FULL;
        }
        forgetLatest();
        for (int c = 0; c < n && failing < 0; c++) {
            for (int i = 0; i < INPUTS; i++) {
                Draw.into(tried[i], seed, c, i, properties[property].types[i]);
            }
            tryCase(property);
        }
        if (failing >= 0) {
            makeSmaller();
            return 0;
        }
        return tally.held * 10 < n ? 2 : 1;
    }

    public int small(int property, int m) {
        if (!isProperty(property) || !isSmall(m)) {
            return BAD;
        }
        int count = Small.countFor(properties[property].types, m);
        if (worker.tries + count > MOST_TRIES) {
            return FULL;
        }
        forgetLatest();
        for (int index = 0; index < count && failing < 0; index++) {
            Small.fill(tried, properties[property].types, m, index);
            tryCase(property);
        }
        return failing >= 0 ? 0 : 1;
    }

    public int many(int property, int m) {
        if (!isProperty(property) || !isSmall(m)) {
            return BAD;
        }
        int count = Small.countFor(properties[property].types, m);
        return count > MOST_TRIES ? FULL : count;
    }

    public int again() {
        if (failing < 0) {
            return NO_COUNTER;
        }
        if (worker.tries >= MOST_TRIES) {
            return NO_TRIES_LEFT;
        }
        copyAll(smallest, tried);
        return worker.outcome(properties[failing]);
    }

    public int counter(int i, int k) {
        if (failing < 0 || i < 0 || i >= INPUTS) {
            return BAD_INPUT;
        }
        return smallest[i].read(k);
    }

    public int drawn(int seed, int c, int i, int type, int k) {
        if (c < 0 || c >= MOST_CASES || i < 0 || i >= INPUTS || type < WHOLE || type > ROW) {
            return BAD_INPUT;
        }
        Draw.into(shown, seed, c, i, type);
        return shown.read(k);
    }

    public int told(int what) {
        switch (what) {
            case 8:
                return terms.count;
            case 9:
                return propertyCount;
            case 10:
                return worker.tries;
            default:
                return tally.read(what);
        }
    }

    public int label(int l) {
        return l < 0 || l >= LABELS ? BAD : tally.labels[l];
    }

    private static Value[] newValues(int count) {
        Value[] made = new Value[count];
        for (int i = 0; i < count; i++) {
            made[i] = new Value();
        }
        return made;
    }

    private static void copyAll(Value[] from, Value[] to) {
        for (int i = 0; i < INPUTS; i++) {
            to[i].copy(from[i]);
        }
    }

    private static boolean isType(int type) {
        return type >= NOTHING && type <= ROW;
    }

    private static boolean isSmall(int m) {
        return m >= 0 && m <= MOST_SMALL;
    }

    private boolean isProperty(int property) {
        return property >= 0 && property < propertyCount;
    }

    private void forgetLatest() {
        tally.clear();
        failing = -1;
    }

    private void tryCase(int property) {
        int outcome = worker.outcome(properties[property]);
        tally.countCase(outcome);
        if (outcome == HOLDS && properties[property].label >= 0) {
            tally.labels[worker.labelled(properties[property])]++;
        }
        if (outcome > HOLDS) {
            failing = property;
            copyAll(tried, smallest);
        }
    }

    private void makeSmaller() {
        int next = 0;
        for (int count = 0; count < MOST_CANDIDATES && takeCandidate(next); count++) {
            tally.candidates++;
            next++;
            if (worker.outcome(properties[failing]) == tally.outcome) {
                tally.taken++;
                copyAll(tried, smallest);
                next = 0;
            }
        }
        // With fewer tried, the loop can only have ended for want of a candidate.
        tally.settled = tally.candidates < MOST_CANDIDATES;
    }

    /** Sets the inputs to candidate number j of the smallest ones so far, if there is one. */
    private boolean takeCandidate(int j) {
        int left = j;
        for (int i = 0; i < INPUTS; i++) {
            int count = smallest[i].candidateCount();
            if (left < count) {
                copyAll(smallest, tried);
                tried[i].becomeCandidate(left);
                return true;
            }
            left -= count;
        }
        return false;
    }

    /** A whole, a row or nothing, written anew each time so that no try makes an object. */
    private static final class Value {
        private static final int WAYS = 3;

        private int kind = NOTHING;
        private int whole = 0;
        private int length = 0;
        private final int[] ints = new int[MOST_INTS];

        private void setNothing() {
            kind = NOTHING;
            length = 0;
        }

        private void setWhole(int number) {
            kind = WHOLE;
            whole = number;
            length = 0;
        }

        /** The ints of an earlier row are left in place: the caller writes each of the new ones. */
        private void setRow(int newLength) {
            kind = ROW;
            length = newLength;
        }

        private void copy(Value from) {
            kind = from.kind;
            whole = from.whole;
            length = from.length;
            for (int place = 0; place < length; place++) {
                ints[place] = from.ints[place];
            }
        }

        private int read(int k) {
            if (kind == WHOLE) {
                return k == -1 ? whole : BAD_INPUT;
            }
            if (kind != ROW || k < -1 || k >= length) {
                return BAD_INPUT;
            }
            return k == -1 ? length : ints[k];
        }

        private boolean hasPlace(int place) {
            return place >= 0 && place < length;
        }

        private int candidateCount() {
            if (kind == NOTHING) {
                return 0;
            }
            if (kind == WHOLE) {
                return whole == 0 ? 0 : WAYS;
            }
            int count = length;
            for (int place = 0; place < length; place++) {
                count += ints[place] == 0 ? 0 : WAYS;
            }
            return count;
        }

        private void becomeCandidate(int j) {
            if (kind == WHOLE) {
                whole = nearerToZero(whole, j);
            } else if (j < length) {
                dropPlace(j);
            } else {
                shrinkAnInt(j - length);
            }
        }

        private void dropPlace(int gone) {
            for (int place = gone; place < length - 1; place++) {
                ints[place] = ints[place + 1];
            }
            length--;
        }

        private void shrinkAnInt(int j) {
            int left = j;
            for (int place = 0; place < length; place++) {
                if (ints[place] != 0) {
                    if (left < WAYS) {
                        ints[place] = nearerToZero(ints[place], left);
                        return;
                    }
                    left -= WAYS;
                }
            }
        }

        private static int nearerToZero(int number, int way) {
            switch (way) {
                case 0:
                    return 0;
                case 1:
                    return number / 2;
                default:
                    return number > 0 ? number - 1 : number + 1;
            }
        }
    }

    /** The terms so far; a part is always an earlier term, so no term can hold itself. */
    private static final class Terms {
        private static final int INPUT = 0, NUMBER = 1, NONE = 2;
        private static final int PLUS = 3, MINUS = 4, TIMES = 5, QUOTIENT = 6, REST = 7, BELOW = 8;
        private static final int LIKE = 9, AT = 10, LENGTH = 11, ZEROS = 12, PUT = 13, JOIN = 14, PART = 15;
        private static final int SORTED = 16, TURNED = 17, SUM = 18, IF = 19, BOTH = 20;

        private static final int[] PARTS = {
            0, 0, 0, 2, 2, 2, 2, 2, 2, 2, 2, 1, 1, 3, 2, 3, 1, 1, 1, 3, 2
        };

        private final int[] what = new int[MOST_TERMS];
        private final int[] a = new int[MOST_TERMS];
        private final int[] b = new int[MOST_TERMS];
        private final int[] c = new int[MOST_TERMS];
        private final int[] n = new int[MOST_TERMS];
        private int count = 0;

        private boolean has(int t) {
            return t >= 0 && t < count;
        }

        private boolean hasOrNone(int t) {
            return t == -1 || has(t);
        }

        private boolean allows(int newWhat, int newN) {
            if (newWhat < INPUT || newWhat > BOTH) {
                return false;
            }
            return newWhat != INPUT || (newN >= 0 && newN < INPUTS);
        }

        private boolean hasParts(int newWhat, int newA, int newB, int newC) {
            int parts = PARTS[newWhat];
            return (parts < 1 || has(newA)) && (parts < 2 || has(newB)) && (parts < 3 || has(newC));
        }

        private int add(int newWhat, int newA, int newB, int newC, int newN) {
            what[count] = newWhat;
            a[count] = newA;
            b[count] = newB;
            c[count] = newC;
            n[count] = newN;
            count++;
            return count - 1;
        }
    }

    /** What is tried; made ahead and written when it comes, so that no place is ever null. */
    private static final class Property {
        private final int[] types = new int[INPUTS];
        private int condition = -1;
        private int body = 0;
        private int label = -1;
        private int expected = 0;

        private void setTypes(int first, int second, int third) {
            types[0] = first;
            types[1] = second;
            types[2] = third;
        }

        private void setTerms(int newCondition, int newBody, int newLabel, int newExpected) {
            condition = newCondition;
            body = newBody;
            label = newLabel;
            expected = newExpected;
        }
    }

    /**
     * Works terms. A try has at most MOST_STEPS steps and each step comes to one value, so the step's
     * number is the place of its value. A throw is answered as its number below 0.
     */
    private static final class Worker {
        private static final int EITHER = 2, SAME = 3, UNSEEN = 4;

        // The kind that each term's part must be of; 0 WHOLE, 1 ROW, else one of the three above.
        private static final int[] NEED_A = {
            4, 4, 4, 0, 0, 0, 0, 0, 0, 2, 1, 1, 0, 1, 1, 1, 1, 1, 1, 0, 0
        };
        private static final int[] NEED_B = {
            4, 4, 4, 0, 0, 0, 0, 0, 0, 3, 0, 4, 4, 0, 1, 0, 4, 4, 4, 4, 0
        };
        private static final int[] NEED_C = {
            4, 4, 4, 4, 4, 4, 4, 4, 4, 4, 4, 4, 4, 0, 4, 0, 4, 4, 4, 4, 4
        };

        private final Terms terms = new Terms();
        private final Value[] inputs = newValues(INPUTS);
        private final Value[] values = newValues(MOST_STEPS);
        private int steps = 0;
        private int tries = 0;

        private int outcome(Property property) {
            tries++;
            steps = 0;
            if (property.condition >= 0) {
                int place = asWhole(work(property.condition));
                if (place < 0) {
                    return -place;
                }
                if (values[place].whole == 0) {
                    return DROPPED;
                }
            }
            int place = asWhole(work(property.body));
            if (place < 0) {
                return -place == property.expected ? HOLDS : -place;
            }
            if (property.expected != 0) {
                return UNTHROWN;
            }
            return values[place].whole != 0 ? HOLDS : FALSE;
        }

        /** Goes on with the steps of the outcome before it. */
        private int labelled(Property property) {
            int place = asWhole(work(property.label));
            if (place < 0) {
                return OTHER_LABEL;
            }
            int number = values[place].whole;
            return number >= 0 && number < OTHER_LABEL ? number : OTHER_LABEL;
        }

        /** Turns the place of a row or of nothing into the throw that it brings where a whole must be. */
        private int asWhole(int place) {
            if (place < 0) {
                return place;
            }
            int thrown = lookAt(values[place], WHOLE);
            return thrown != 0 ? -thrown : place;
        }

        /** The steps bound the depth too: each level is a step of its own. */
        private int work(int t) {
            if (steps >= MOST_STEPS) {
                return -SPENT;
            }
            int own = steps;
            steps++;
            int what = terms.what[t];
            int parts = Terms.PARTS[what];
            int a = parts > 0 ? work(terms.a[t]) : own;
            if (a < 0) {
                return a;
            }
            if (what == Terms.IF || what == Terms.BOTH) {
                return workChosen(t, own, asWhole(a));
            }
            int b = parts > 1 ? work(terms.b[t]) : own;
            if (b < 0) {
                return b;
            }
            int c = parts > 2 ? work(terms.c[t]) : own;
            if (c < 0) {
                return c;
            }
            // Looked at only now: what a later part throws goes ahead of an earlier part's kind.
            int thrown = lookAtAll(what, values[a], values[b], values[c]);
            if (thrown == 0) {
                thrown = comeTo(t, values[own], values[a], values[b], values[c]);
            }
            return thrown != 0 ? -thrown : own;
        }

        /** IF and BOTH, whose other parts are worked only as a tells. */
        private int workChosen(int t, int own, int a) {
            if (a < 0) {
                return a;
            }
            boolean truth = values[a].whole != 0;
            if (terms.what[t] == Terms.IF) {
                return work(truth ? terms.b[t] : terms.c[t]);
            }
            if (truth) {
                int b = asWhole(work(terms.b[t]));
                if (b < 0) {
                    return b;
                }
                truth = values[b].whole != 0;
            }
            setTruth(values[own], truth);
            return own;
        }

        private static int lookAtAll(int what, Value a, Value b, Value c) {
            int thrown = lookAt(a, NEED_A[what]);
            if (thrown == 0) {
                thrown = lookAt(b, NEED_B[what] == SAME ? a.kind : NEED_B[what]);
            }
            if (thrown == 0) {
                thrown = lookAt(c, NEED_C[what]);
            }
            return thrown;
        }

        private static int lookAt(Value part, int need) {
            if (need == UNSEEN) {
                return 0;
            }
            if (part.kind == NOTHING) {
                return NULL;
            }
            return need == EITHER || part.kind == need ? 0 : KIND;
        }

        private int comeTo(int t, Value own, Value a, Value b, Value c) {
            int what = terms.what[t];
            switch (what) {
                case Terms.INPUT:
                    own.copy(inputs[terms.n[t]]);
                    return 0;
                case Terms.NUMBER:
                    own.setWhole(terms.n[t]);
                    return 0;
                case Terms.NONE:
                    own.setNothing();
                    return 0;
                case Terms.LIKE:
                    setTruth(own, areLike(a, b));
                    return 0;
                case Terms.AT:
                    return setAt(own, a, b.whole);
                case Terms.LENGTH:
                    own.setWhole(a.length);
                    return 0;
                case Terms.ZEROS:
                    return setZeros(own, a.whole);
                case Terms.PUT:
                    return setPut(own, a, b.whole, c.whole);
                case Terms.JOIN:
                    return setJoined(own, a, b);
                case Terms.PART:
                    return setPart(own, a, b.whole, c.whole);
                case Terms.SORTED:
                    setSorted(own, a);
                    return 0;
                case Terms.TURNED:
                    setTurned(own, a);
                    return 0;
                case Terms.SUM:
                    own.setWhole(sum(a));
                    return 0;
                default:
                    return setOfWholes(own, what, a.whole, b.whole);
            }
        }

        private static void setTruth(Value own, boolean truth) {
            own.setWhole(truth ? 1 : 0);
        }

        private static int setOfWholes(Value own, int what, int x, int y) {
            if ((what == Terms.QUOTIENT || what == Terms.REST) && y == 0) {
                return DIVISION;
            }
            switch (what) {
                case Terms.PLUS:
                    own.setWhole(x + y);
                    break;
                case Terms.MINUS:
                    own.setWhole(x - y);
                    break;
                case Terms.TIMES:
                    own.setWhole(x * y);
                    break;
                case Terms.QUOTIENT:
                    own.setWhole(x / y);
                    break;
                case Terms.REST:
                    own.setWhole(x % y);
                    break;
                default:
                    setTruth(own, x < y);
                    break;
            }
            return 0;
        }

        private static boolean areLike(Value a, Value b) {
            if (a.kind == WHOLE) {
                return a.whole == b.whole;
            }
            if (a.length != b.length) {
                return false;
            }
            for (int place = 0; place < a.length; place++) {
                if (a.ints[place] != b.ints[place]) {
                    return false;
                }
            }
            return true;
        }

        private static int setAt(Value own, Value row, int place) {
            if (!row.hasPlace(place)) {
                return INDEX;
            }
            own.setWhole(row.ints[place]);
            return 0;
        }

        private static int setZeros(Value own, int length) {
            if (length < 0) {
                return SIZE;
            }
            if (length > MOST_INTS) {
                return ROOM;
            }
            own.setRow(length);
            for (int place = 0; place < length; place++) {
                own.ints[place] = 0;
            }
            return 0;
        }

        private static int setPut(Value own, Value row, int place, int number) {
            if (!row.hasPlace(place)) {
                return INDEX;
            }
            own.copy(row);
            own.ints[place] = number;
            return 0;
        }

        private static int setJoined(Value own, Value first, Value second) {
            if (first.length + second.length > MOST_INTS) {
                return ROOM;
            }
            own.setRow(first.length + second.length);
            System.arraycopy(first.ints, 0, own.ints, 0, first.length);
            System.arraycopy(second.ints, 0, own.ints, first.length, second.length);
            return 0;
        }

        private static int setPart(Value own, Value row, int from, int length) {
            if (length < 0) {
                return SIZE;
            }
            if (length > MOST_INTS) {
                return ROOM;
            }
            // Told without the sum, which could wrap.
            if (from < 0 || from > row.length - length) {
                return INDEX;
            }
            own.setRow(length);
            System.arraycopy(row.ints, from, own.ints, 0, length);
            return 0;
        }

        private static void setSorted(Value own, Value row) {
            own.copy(row);
            for (int end = 1; end < own.length; end++) {
                int number = own.ints[end];
                int place = end;
                for (; place > 0 && own.ints[place - 1] > number; place--) {
                    own.ints[place] = own.ints[place - 1];
                }
                own.ints[place] = number;
            }
        }

        private static void setTurned(Value own, Value row) {
            own.setRow(row.length);
            for (int place = 0; place < row.length; place++) {
                own.ints[place] = row.ints[row.length - 1 - place];
            }
        }

        private static int sum(Value row) {
            int total = 0;
            for (int place = 0; place < row.length; place++) {
                total += row.ints[place];
            }
            return total;
        }
    }

    /** Inputs drawn by a hash alone, so that a case depends on nothing but its seed and number. */
    private static final class Draw {
        private static final int SIZES = 12, NUMBERS_A_CASE = 16;

        private static int hash(int s, int t) {
            int x = s + t * 0x9E3779B9;
            x = (x ^ (x >>> 16)) * 0x85EBCA6B;
            x = (x ^ (x >>> 13)) * 0xC2B2AE35;
            return x ^ (x >>> 16);
        }

        private static int between(int h, int size) {
            return Math.floorMod(h, 2 * size + 1) - size;
        }

        private static void into(Value value, int seed, int c, int i, int type) {
            int size = 1 + c % SIZES;
            int h = hash(seed, NUMBERS_A_CASE * c + i);
            if (type == WHOLE) {
                value.setWhole(between(h, size));
            } else if (type == ROW) {
                value.setRow(Math.floorMod(h, size / 2 + 1));
                for (int k = 0; k < value.length; k++) {
                    value.ints[k] = between(hash(h, k + 1), size);
                }
            } else {
                value.setNothing();
            }
        }
    }

    /** All small values, each told by its number in their order. */
    private static final class Small {
        private static int wholes(int m) {
            return 2 * m + 1;
        }

        private static int count(int type, int m) {
            if (type == NOTHING) {
                return 1;
            }
            if (type == WHOLE) {
                return wholes(m);
            }
            int total = 1;
            int ofLength = 1;
            for (int length = 1; length <= m; length++) {
                ofLength *= wholes(m);
                total += ofLength;
            }
            return total;
        }

        private static int countFor(int[] types, int m) {
            int total = 1;
            for (int i = 0; i < INPUTS; i++) {
                total *= count(types[i], m);
            }
            return total;
        }

        /** The last input changes first, as the last digit of a number does. */
        private static void fill(Value[] inputs, int[] types, int m, int index) {
            int left = index;
            for (int i = INPUTS - 1; i >= 0; i--) {
                int count = count(types[i], m);
                into(inputs[i], types[i], m, left % count);
                left /= count;
            }
        }

        private static void into(Value value, int type, int m, int index) {
            if (type == WHOLE) {
                value.setWhole(whole(index));
            } else if (type == ROW) {
                rowInto(value, m, index);
            } else {
                value.setNothing();
            }
        }

        private static int whole(int index) {
            return index % 2 == 1 ? (index + 1) / 2 : -(index / 2);
        }

        private static void rowInto(Value value, int m, int index) {
            int left = index;
            int ofLength = 1;
            int length = 0;
            for (; length < m && left >= ofLength; length++) {
                left -= ofLength;
                ofLength *= wholes(m);
            }
            value.setRow(length);
            for (int place = length - 1; place >= 0; place--) {
                value.ints[place] = whole(left % wholes(m));
                left /= wholes(m);
            }
        }
    }

    /** What the latest run, or all small, counted. */
    private static final class Tally {
        private final int[] labels = new int[LABELS];
        private int cases = 0;
        private int held = 0;
        private int dropped = 0;
        private int outcome = 0;
        private int failedCase = -1;
        private int candidates = 0;
        private int taken = 0;
        private boolean settled = false;

        private void clear() {
            for (int l = 0; l < LABELS; l++) {
                labels[l] = 0;
            }
            cases = 0;
            held = 0;
            dropped = 0;
            outcome = 0;
            failedCase = -1;
            candidates = 0;
            taken = 0;
            settled = false;
        }

        private void countCase(int result) {
            if (result == HOLDS) {
                held++;
            } else if (result == DROPPED) {
                dropped++;
            } else {
                outcome = result;
                failedCase = cases;
            }
            cases++;
        }

        private int read(int what) {
            switch (what) {
                case 0:
                    return cases;
                case 1:
                    return held;
                case 2:
                    return dropped;
                case 3:
                    return outcome;
                case 4:
                    return failedCase;
                case 5:
                    return candidates;
                case 6:
                    return taken;
                case 7:
                    return settled ? 1 : 0;
                default:
                    return BAD;
            }
        }
    }
}
