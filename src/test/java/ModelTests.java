import java.util.ArrayList;
import java.util.List;
import java.util.Random;
import java.util.TreeMap;

/**
 * Long random runs of calls, answered by PropertyTests and by a model of the document that is built
 * quite otherwise: values are objects, throws are exceptions, candidates and small values are lists.
 */
public final class ModelTests {
    private static final int OBJECTS = 1500, CALLS = 512;
    private static int wrong = 0;
    private static final TreeMap<String, Integer> SEEN = new TreeMap<>();

    private static void see(String what) {
        SEEN.merge(what, 1, Integer::sum);
    }

    public static void main(String[] args) {
        for (int object = 0; object < OBJECTS; object++) {
            new Play(object).calls();
        }
        for (int outcome = 0; outcome <= 9; outcome++) {
            mustHaveSeen("told(3) " + outcome);
        }
        for (String call : new String[] {"run", "small"}) {
            for (int answer = -2; answer <= (call.equals("run") ? 2 : 1); answer++) {
                mustHaveSeen(call + " " + answer);
            }
        }
        for (String sight : new String[] {"many -2", "many -1", "again -2", "again 9", "term -2", "term -1",
                "property -2", "property -1", "told(7) 0 failing", "told(7) 1", "dropped", "taken", "labels"}) {
            mustHaveSeen(sight);
        }
        for (int what = 0; what <= 20; what++) {
            for (int thrown : Model.THROWN_BY[what]) {
                mustHaveSeen("throw " + thrown + " of " + what);
            }
        }
        System.out.println(wrong == 0 ? "the model agrees" : wrong + " answers are not the model's");
        if (wrong != 0) {
            System.exit(1);
        }
    }

    private static void mustHaveSeen(String what) {
        if (!SEEN.containsKey(what)) {
            wrong++;
            System.out.println("the runs of calls never came to: " + what);
        }
    }

    /** One object's calls. */
    private static final class Play {
        private final int object;
        private final Random random;
        private final PropertyTests x = new PropertyTests();
        private final Model model = new Model();
        private final List<Integer> wholes = new ArrayList<>();
        private final List<Integer> rows = new ArrayList<>();
        private final int[] types = new int[3];
        private int calls = 0;

        Play(int object) {
            this.object = object;
            random = new Random(7919L * object + 1);
            for (int i = 0; i < 3; i++) {
                types[i] = random.nextInt(8) == 0 ? -1 : random.nextInt(2);
            }
        }

        void calls() {
            int made = 8 + random.nextInt(60);
            while (calls < CALLS) {
                if (calls < made) {
                    term();
                } else if (calls < made + 10) {
                    property();
                } else {
                    anyCall();
                }
            }
        }

        private void due(String call, int got, int want) {
            calls++;
            if (got != want) {
                wrong++;
                if (wrong < 40) {
                    System.out.println("object " + object + ": " + call + " answered " + got + ", due is " + want);
                }
            }
        }

        private void anyCall() {
            switch (random.nextInt(14)) {
                case 0: term(); break;
                case 1: property(); break;
                case 2: case 3: run(); break;
                case 4: small(); break;
                case 5: many(); break;
                case 6: again(); break;
                case 7: case 8: counter(); break;
                case 9: drawn(); break;
                case 10: label(); break;
                default: told(); break;
            }
        }

        private int upTo(int from, int to) {
            return from + random.nextInt(to - from + 1);
        }

        private int oneOf(List<Integer> terms) {
            if (terms.isEmpty() || random.nextInt(25) == 0) {
                return upTo(0, Math.max(0, model.terms.size() - 1));
            }
            // Later terms are dearer and deeper, so they are taken more often.
            return terms.get(Math.max(random.nextInt(terms.size()), random.nextInt(terms.size())));
        }

        private int anyPart() {
            return random.nextInt(30) == 0 ? upTo(-2, 62) : -9;
        }

        private void term() {
            int what = random.nextInt(40) == 0 ? upTo(-2, 23) : model.terms.size() < 3 ? 0 : upTo(0, 20);
            int n = what == 0 ? (random.nextInt(30) == 0 ? upTo(-1, 4) : random.nextInt(3))
                : random.nextInt(9) == 0 ? random.nextInt() : upTo(-3, 17);
            int[] parts = new int[3];
            for (int i = 0; i < 3; i++) {
                boolean row = what >= 0 && what <= 20 && Model.ROW_PARTS[what].indexOf('0' + i) >= 0;
                if (what == 9 || (what == 19 && i > 0)) {
                    row = n % 2 == 0;
                }
                int odd = anyPart();
                parts[i] = odd != -9 ? odd : oneOf(row ? rows : wholes);
            }
            int want = model.term(what, parts[0], parts[1], parts[2], n);
            due("term(" + what + ", " + parts[0] + ", " + parts[1] + ", " + parts[2] + ", " + n + ")",
                x.term(what, parts[0], parts[1], parts[2], n), want);
            see("term " + Math.min(want, 0));
            if (want >= 0) {
                boolean row = what == 0 ? types[n] == 1 : what == 19 ? n % 2 == 0
                    : what >= 12 && what <= 17;
                (row ? rows : wholes).add(want);
            }
        }

        private void property() {
            int[] p = {types[0], types[1], types[2], -1, oneOf(wholes), -1, 0};
            if (random.nextInt(3) == 0) {
                p[3] = oneOf(wholes);
            }
            if (random.nextInt(2) == 0) {
                p[5] = oneOf(wholes);
            }
            if (random.nextInt(4) == 0) {
                p[6] = upTo(1, 7);
            }
            if (random.nextInt(6) == 0) {
                p[random.nextInt(3)] = upTo(-2, 2);
            }
            if (random.nextInt(12) == 0) {
                p[upTo(3, 6)] = upTo(-2, 62);
            }
            int want = model.property(p);
            due("property(" + java.util.Arrays.toString(p) + ")",
                x.property(p[0], p[1], p[2], p[3], p[4], p[5], p[6]), want);
            see("property " + Math.min(want, 0));
        }

        private int someProperty() {
            return random.nextInt(20) == 0 ? upTo(-2, 9) : random.nextInt(8);
        }

        private void run() {
            int p = someProperty();
            int n = random.nextInt(20) == 0 ? upTo(195, 205) : random.nextInt(20) == 0 ? upTo(-2, 2)
                : upTo(1, 60);
            int seed = random.nextInt(3) == 0 ? random.nextInt() : upTo(-100, 100);
            int want = model.run(p, n, seed);
            due("run(" + p + ", " + n + ", " + seed + ")", x.run(p, n, seed), want);
            see("run " + want);
            all();
        }

        private void small() {
            int p = someProperty();
            int m = random.nextInt(20) == 0 ? upTo(-2, 5) : random.nextInt(4);
            int want = model.small(p, m);
            due("small(" + p + ", " + m + ")", x.small(p, m), want);
            see("small " + want);
            all();
        }

        /** Reads all that the latest run left, if the object has calls enough; else it is read at random. */
        private void all() {
            if (calls > CALLS - 50 || random.nextInt(3) == 0) {
                return;
            }
            for (int what = 0; what <= 10; what++) {
                due("told(" + what + ")", x.told(what), model.told(what));
            }
            for (int l = 0; l <= 8; l++) {
                due("label(" + l + ")", x.label(l), model.label(l));
            }
            for (int i = 0; i <= 2; i++) {
                for (int k = -1; k <= 6; k++) {
                    due("counter(" + i + ", " + k + ")", x.counter(i, k), model.counter(i, k));
                }
            }
            see("told(3) " + model.told(3));
            see("told(5) " + model.told(5));
            see("told(7) " + model.told(7) + (model.told(3) != 0 && model.told(7) == 0 ? " failing" : ""));
            if (model.told(2) > 0) {
                see("dropped");
            }
            if (model.told(6) > 0) {
                see("taken");
            }
            if (model.label(3) > 0) {
                see("labels");
            }
        }

        private void many() {
            int p = someProperty();
            int m = upTo(-1, 4);
            int want = model.many(p, m);
            due("many(" + p + ", " + m + ")", x.many(p, m), want);
            see("many " + Math.min(want, 0));
        }

        private void again() {
            int want = model.again();
            due("again()", x.again(), want);
            see("again " + want);
        }

        private void counter() {
            int i = upTo(-1, 3);
            int k = upTo(-2, 7);
            due("counter(" + i + ", " + k + ")", x.counter(i, k), model.counter(i, k));
        }

        private void drawn() {
            int seed = random.nextInt();
            int c = random.nextInt(20) == 0 ? upTo(-3, 203) : random.nextInt(200);
            int i = upTo(-1, 3);
            int type = upTo(-1, 2);
            for (int k = -2; k <= 7 && calls < CALLS; k++) {
                due("drawn(" + seed + ", " + c + ", " + i + ", " + type + ", " + k + ")",
                    x.drawn(seed, c, i, type, k), model.drawn(seed, c, i, type, k));
            }
        }

        private void told() {
            int what = upTo(-1, 11);
            due("told(" + what + ")", x.told(what), model.told(what));
        }

        private void label() {
            int l = upTo(-1, 9);
            due("label(" + l + ")", x.label(l), model.label(l));
        }
    }

    private static final class Thrown extends RuntimeException {
        private static final long serialVersionUID = 1L;
        final int number;

        Thrown(int number) {
            super(null, null, false, false);
            this.number = number;
        }
    }

    /** A whole is an Integer, a row a List of them, nothing is null. */
    private static final class Model {
        static final int[] PART_COUNT = {0, 0, 0, 2, 2, 2, 2, 2, 2, 2, 2, 1, 1, 3, 2, 3, 1, 1, 1, 3, 2};
        static final String[] ROW_PARTS = {"", "", "", "", "", "", "", "", "", "", "0", "0", "", "0", "01", "0",
            "0", "0", "0", "", ""};
        static final int[][] THROWN_BY = {{7}, {7}, {}, {1, 4}, {1, 4}, {1, 4}, {1, 4, 5}, {1, 4, 5}, {1, 4},
            {1, 4}, {1, 4, 2}, {1, 4}, {1, 4, 3, 6}, {1, 4, 2}, {1, 4, 6}, {1, 4, 3, 6, 2}, {1, 4}, {1, 4},
            {1, 4}, {1, 4}, {1, 4}};

        final List<int[]> terms = new ArrayList<>();
        final List<int[]> properties = new ArrayList<>();
        final int[] told = {0, 0, 0, 0, -1, 0, 0, 0};
        final int[] labels = new int[9];
        int tries = 0;
        int steps = 0;
        Object[] counter = null;
        int[] counterProperty = null;

        boolean isTerm(int t) {
            return 0 <= t && t < terms.size();
        }

        int term(int what, int a, int b, int c, int n) {
            if (what < 0 || what > 20 || (what == 0 && (n < 0 || n > 2))) {
                return -1;
            }
            int[] made = {what, a, b, c, n};
            for (int i = 1; i <= PART_COUNT[what]; i++) {
                if (!isTerm(made[i])) {
                    return -1;
                }
            }
            if (terms.size() == 60) {
                return -2;
            }
            terms.add(made);
            return terms.size() - 1;
        }

        int property(int[] p) {
            for (int i = 0; i < 3; i++) {
                if (p[i] < -1 || p[i] > 1) {
                    return -1;
                }
            }
            if (p[3] != -1 && !isTerm(p[3]) || !isTerm(p[4]) || p[5] != -1 && !isTerm(p[5])) {
                return -1;
            }
            if (p[6] < 0 || p[6] > 7) {
                return -1;
            }
            if (properties.size() == 8) {
                return -2;
            }
            properties.add(p.clone());
            return properties.size() - 1;
        }

        Object fail(int what, int number) {
            see("throw " + number + " of " + what);
            throw new Thrown(number);
        }

        int whole(int what, Object value) {
            if (value == null) {
                fail(what, 1);
            }
            if (!(value instanceof Integer)) {
                fail(what, 4);
            }
            return (Integer) value;
        }

        @SuppressWarnings("unchecked")
        List<Integer> row(int what, Object value) {
            if (value == null) {
                fail(what, 1);
            }
            if (!(value instanceof List)) {
                fail(what, 4);
            }
            return (List<Integer>) value;
        }

        Object work(int t, Object[] inputs) {
            int[] term = terms.get(t);
            int what = term[0];
            steps++;
            if (steps > 60) {
                fail(what, 7);
            }
            if (what == 0) {
                return inputs[term[4]];
            }
            if (what == 1) {
                return term[4];
            }
            if (what == 2) {
                return null;
            }
            Object first = work(term[1], inputs);
            if (what == 19) {
                return work(whole(what, first) != 0 ? term[2] : term[3], inputs);
            }
            if (what == 20) {
                return whole(what, first) == 0 ? 0 : whole(what, work(term[2], inputs)) == 0 ? 0 : 1;
            }
            Object second = PART_COUNT[what] > 1 ? work(term[2], inputs) : null;
            Object third = PART_COUNT[what] > 2 ? work(term[3], inputs) : null;
            if (what <= 8) {
                return ofWholes(what, whole(what, first), whole(what, second));
            }
            if (what == 9) {
                boolean wholes = first instanceof Integer;
                Object left = wholes ? (Object) whole(what, first) : row(what, first);
                Object right = wholes ? (Object) whole(what, second) : row(what, second);
                return left.equals(right) ? 1 : 0;
            }
            return what == 12 ? zeros(whole(what, first)) : ofRow(what, row(what, first), second, third);
        }

        Object zeros(int length) {
            if (length < 0) {
                fail(12, 3);
            }
            if (length > 16) {
                fail(12, 6);
            }
            return new ArrayList<>(java.util.Collections.nCopies(length, 0));
        }

        Object ofWholes(int what, int a, int b) {
            if ((what == 6 || what == 7) && b == 0) {
                fail(what, 5);
            }
            long x = a;
            long y = b;
            switch (what) {
                case 3: return (int) (x + y);
                case 4: return (int) (x - y);
                case 5: return (int) (x * y);
                case 6: return (int) (x / y);
                case 7: return (int) (x % y);
                default: return x < y ? 1 : 0;
            }
        }

        Object ofRow(int what, List<Integer> row, Object second, Object third) {
            List<Integer> made = new ArrayList<>(row);
            switch (what) {
                case 10: {
                    int place = whole(what, second);
                    return place < 0 || place >= row.size() ? fail(what, 2) : row.get(place);
                }
                case 11:
                    return row.size();
                case 13: {
                    int place = whole(what, second);
                    int number = whole(what, third);
                    if (place < 0 || place >= row.size()) {
                        fail(what, 2);
                    }
                    made.set(place, number);
                    return made;
                }
                case 14:
                    made.addAll(row(what, second));
                    return made.size() > 16 ? fail(what, 6) : made;
                case 15: {
                    long from = whole(what, second);
                    long length = whole(what, third);
                    if (length < 0) {
                        fail(what, 3);
                    }
                    if (length > 16) {
                        fail(what, 6);
                    }
                    if (from < 0 || from + length > row.size()) {
                        fail(what, 2);
                    }
                    return new ArrayList<>(row.subList((int) from, (int) (from + length)));
                }
                case 16:
                    java.util.Collections.sort(made);
                    return made;
                case 17:
                    java.util.Collections.reverse(made);
                    return made;
                default: {
                    long sum = 0;
                    for (int number : row) {
                        sum += number;
                    }
                    return (int) sum;
                }
            }
        }

        int attempt(int[] p, Object[] inputs, boolean labelled) {
            tries++;
            steps = 0;
            if (p[3] != -1) {
                try {
                    if (whole(-1, work(p[3], inputs)) == 0) {
                        return -1;
                    }
                } catch (Thrown thrown) {
                    return thrown.number;
                }
            }
            int outcome;
            try {
                int body = whole(-1, work(p[4], inputs));
                outcome = p[6] != 0 ? 8 : body != 0 ? 0 : 9;
            } catch (Thrown thrown) {
                outcome = thrown.number == p[6] ? 0 : thrown.number;
            }
            if (outcome == 0 && labelled && p[5] != -1) {
                int label = 8;
                try {
                    int number = whole(-1, work(p[5], inputs));
                    label = number >= 0 && number <= 7 ? number : 8;
                } catch (Thrown thrown) {
                    label = 8;
                }
                labels[label]++;
            }
            return outcome;
        }

        static int hash(int s, int t) {
            long mask = 0xFFFFFFFFL;
            long x = (s + t * 0x9E3779B9L) & mask;
            x = ((x ^ (x >> 16)) * 0x85EBCA6BL) & mask;
            x = ((x ^ (x >> 13)) * 0xC2B2AE35L) & mask;
            return (int) (x ^ (x >> 16));
        }

        static int modulo(int number, int by) {
            return ((number % by) + by) % by;
        }

        static Object draw(int seed, int c, int i, int type) {
            int z = 1 + c % 12;
            int h = hash(seed, 16 * c + i);
            if (type == -1) {
                return null;
            }
            if (type == 0) {
                return modulo(h, 2 * z + 1) - z;
            }
            List<Integer> row = new ArrayList<>();
            for (int k = 0; k < modulo(h, z / 2 + 1); k++) {
                row.add(modulo(hash(h, k + 1), 2 * z + 1) - z);
            }
            return row;
        }

        static List<Integer> nearer(int v) {
            return v == 0 ? List.of() : List.of(0, v / 2, v - Integer.signum(v));
        }

        @SuppressWarnings("unchecked")
        static List<Object> smaller(Object value) {
            List<Object> made = new ArrayList<>();
            if (value instanceof Integer) {
                made.addAll(nearer((Integer) value));
            } else if (value != null) {
                List<Integer> row = (List<Integer>) value;
                for (int place = 0; place < row.size(); place++) {
                    List<Integer> without = new ArrayList<>(row);
                    without.remove(place);
                    made.add(without);
                }
                for (int place = 0; place < row.size(); place++) {
                    for (int number : nearer(row.get(place))) {
                        List<Integer> changed = new ArrayList<>(row);
                        changed.set(place, number);
                        made.add(changed);
                    }
                }
            }
            return made;
        }

        static List<Object[]> candidates(Object[] inputs) {
            List<Object[]> made = new ArrayList<>();
            for (int i = 0; i < 3; i++) {
                for (Object value : smaller(inputs[i])) {
                    Object[] changed = inputs.clone();
                    changed[i] = value;
                    made.add(changed);
                }
            }
            return made;
        }

        void clear() {
            java.util.Arrays.fill(told, 0);
            told[4] = -1;
            java.util.Arrays.fill(labels, 0);
            counter = null;
            counterProperty = null;
        }

        boolean failsCase(int[] p, Object[] inputs) {
            int outcome = attempt(p, inputs, true);
            if (outcome == 0) {
                told[1]++;
            } else if (outcome == -1) {
                told[2]++;
            } else {
                told[3] = outcome;
                told[4] = told[0];
                counter = inputs;
                counterProperty = p;
            }
            told[0]++;
            return outcome > 0;
        }

        boolean isProperty(int p) {
            return 0 <= p && p < properties.size();
        }

        int run(int property, int n, int seed) {
            if (!isProperty(property) || n < 1 || n > 200) {
                return -1;
            }
            if (tries + n + 200 > 3000) {
                return -2;
            }
            clear();
            int[] p = properties.get(property);
            for (int c = 0; c < n; c++) {
                Object[] inputs = {draw(seed, c, 0, p[0]), draw(seed, c, 1, p[1]), draw(seed, c, 2, p[2])};
                if (failsCase(p, inputs)) {
                    makeSmaller();
                    return 0;
                }
            }
            return told[1] * 10 < n ? 2 : 1;
        }

        void makeSmaller() {
            boolean took = true;
            while (took && told[5] < 200) {
                took = false;
                for (Object[] candidate : candidates(counter)) {
                    if (told[5] == 200) {
                        break;
                    }
                    told[5]++;
                    if (attempt(counterProperty, candidate, false) == told[3]) {
                        told[6]++;
                        counter = candidate;
                        took = true;
                        break;
                    }
                }
            }
            told[7] = told[5] < 200 ? 1 : 0;
        }

        static List<Integer> smallWholes(int m) {
            List<Integer> made = new ArrayList<>(List.of(0));
            for (int v = 1; v <= m; v++) {
                made.add(v);
                made.add(-v);
            }
            return made;
        }

        static List<Object> smallValues(int type, int m) {
            List<Object> made = new ArrayList<>();
            if (type == -1) {
                made.add(null);
            } else if (type == 0) {
                made.addAll(smallWholes(m));
            } else {
                List<List<Integer>> longest = new ArrayList<>();
                longest.add(List.of());
                made.addAll(longest);
                for (int length = 1; length <= m; length++) {
                    List<List<Integer>> longer = new ArrayList<>();
                    for (List<Integer> row : longest) {
                        for (int number : smallWholes(m)) {
                            List<Integer> grown = new ArrayList<>(row);
                            grown.add(number);
                            longer.add(grown);
                        }
                    }
                    made.addAll(longer);
                    longest = longer;
                }
            }
            return made;
        }

        long smallCount(int[] p, int m) {
            long count = 1;
            for (int i = 0; i < 3; i++) {
                count *= smallValues(p[i], m).size();
            }
            return count;
        }

        int small(int property, int m) {
            if (!isProperty(property) || m < 0 || m > 3) {
                return -1;
            }
            int[] p = properties.get(property);
            if (tries + smallCount(p, m) > 3000) {
                return -2;
            }
            clear();
            for (Object first : smallValues(p[0], m)) {
                for (Object second : smallValues(p[1], m)) {
                    for (Object third : smallValues(p[2], m)) {
                        if (failsCase(p, new Object[] {first, second, third})) {
                            return 0;
                        }
                    }
                }
            }
            return 1;
        }

        int many(int property, int m) {
            if (!isProperty(property) || m < 0 || m > 3) {
                return -1;
            }
            long count = smallCount(properties.get(property), m);
            return count > 3000 ? -2 : (int) count;
        }

        int again() {
            if (counter == null) {
                return -2;
            }
            return tries >= 3000 ? -3 : attempt(counterProperty, counter, false);
        }

        static int read(Object value, int k) {
            if (value instanceof Integer && k == -1) {
                return (Integer) value;
            }
            if (value instanceof List) {
                List<?> row = (List<?>) value;
                return k == -1 ? row.size() : k >= 0 && k < row.size() ? (Integer) row.get(k) : Integer.MIN_VALUE;
            }
            return Integer.MIN_VALUE;
        }

        int counter(int i, int k) {
            return counter == null || i < 0 || i > 2 ? Integer.MIN_VALUE : read(counter[i], k);
        }

        int drawn(int seed, int c, int i, int type, int k) {
            if (c < 0 || c > 199 || i < 0 || i > 2 || type < 0 || type > 1) {
                return Integer.MIN_VALUE;
            }
            return read(draw(seed, c, i, type), k);
        }

        int told(int what) {
            if (what == 8) {
                return terms.size();
            }
            if (what == 9) {
                return properties.size();
            }
            if (what == 10) {
                return tries;
            }
            return what < 0 || what > 10 ? -1 : told[what];
        }

        int label(int l) {
            return l < 0 || l > 8 ? -1 : labels[l];
        }
    }
}
