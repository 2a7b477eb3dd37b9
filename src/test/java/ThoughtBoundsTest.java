/** The edges of promises 19 to 27: FILTERS, JOINS, THOUGHT, SORTING and BEST. */
public final class ThoughtBoundsTest extends Bounds {
    public static void main(String[] args) {
        filterRoom();
        filterNumbers();
        filterRefusals();
        joinRoom();
        joinOfEachPair();
        joinRefusals();
        clearEdges();
        filterOfEdges();
        joinOfEdges();
        joinShareByDifferent();
        joinShareEdges();
        thoughtOfNone();
        thoughtStepByStep();
        thoughtWithinTheSet();
        setEdges();
        sortingByBinaryDigits();
        sortingIsCut();
        costOfOneTable();
        costOfTwoTables();
        costWithoutWay();
        costRefusals();
        Due.end("ThoughtBoundsTest");
    }

    private static void bits(String what, float want, State state, Call call) {
        keeps(what, Float.floatToIntBits(want), state, call);
    }

    // ---- promise 19

    private static void filterRoom() {
        HistogramPlans x = new HistogramPlans();
        for (int f = 0; f < 8; f++) {
            Due.is("filter: its number", f, x.filter(f, f % 3, f));
            Due.is("filter: how many", f + 1, x.status(1));
        }
        Due.is("filter: a ninth", -7, x.filter(0, 0, 0));
        refuses("filter: no room", -7, Bounds::full, y -> y.filter(14, 2, 99));
        Due.is("filter: JOINS have room of their own", 0, x.join(0, 3));
        x.clear();
        Due.is("filter: room again", 0, x.filter(0, 0, 0));
    }

    private static void filterNumbers() {
        int[][] edges = {{0, 0, 0}, {14, 2, 99}, {0, 2, 0}, {14, 0, 99}, {7, 1, 50}, {0, 0, 0}};
        HistogramPlans x = new HistogramPlans();
        for (int f = 0; f < edges.length; f++) {
            Due.is("filter: edges", f, x.filter(edges[f][0], edges[f][1], edges[f][2]));
        }
        for (int f = 0; f < edges.length; f++) {
            for (int what = 0; what < 3; what++) {
                Due.is("filter: kept as told", edges[f][what], x.filterOf(f, what));
            }
        }
    }

    private static void filterRefusals() {
        for (int place : NO_PLACES) {
            refuses("filter: no PLACE " + place, -1, Bounds::rich, y -> y.filter(place, 0, 0));
            refuses("filter: PLACE ahead of SIGN", -1, Bounds::rich, y -> y.filter(place, 3, 0));
            refuses("filter: PLACE ahead of VALUE", -1, Bounds::rich, y -> y.filter(place, 0, 100));
            refuses("filter: PLACE ahead of room", -1, Bounds::full, y -> y.filter(place, 0, 0));
        }
        for (int sign : NO_SIGNS) {
            refuses("filter: SIGN " + sign, -6, Bounds::rich, y -> y.filter(0, sign, 0));
            refuses("filter: SIGN ahead of room", -6, Bounds::full, y -> y.filter(0, sign, 0));
        }
        for (int v : NO_VALUES) {
            refuses("filter: VALUE " + v, -6, Bounds::rich, y -> y.filter(0, 0, v));
            refuses("filter: VALUE ahead of room", -6, Bounds::full, y -> y.filter(0, 0, v));
        }
    }

    // ---- promise 20

    private static void joinRoom() {
        HistogramPlans x = new HistogramPlans();
        for (int j = 0; j < 8; j++) {
            Due.is("join: its number", j, x.join(0, 3));
            Due.is("join: how many", j + 1, x.status(2));
        }
        Due.is("join: a ninth", -7, x.join(0, 3));
        refuses("join: no room", -7, Bounds::full, y -> y.join(2, 14));
        Due.is("join: FILTERS have room of their own", 0, x.filter(0, 0, 0));
        x.clear();
        Due.is("join: room again", 0, x.join(0, 3));
    }

    private static void joinOfEachPair() {
        for (int p = 0; p < 15; p++) {
            for (int q = 0; q < 15; q++) {
                int one = p;
                int other = q;
                if (p / 3 == q / 3) {
                    refuses("join: of one TABLE", -6, Bounds::rich, y -> y.join(one, other));
                } else {
                    HistogramPlans x = new HistogramPlans();
                    Due.is("join(" + p + ", " + q + ")", 0, x.join(p, q));
                    Due.is("join: the first of the lesser TABLE", Math.min(p, q), x.joinOf(0, 0));
                    Due.is("join: the second of the greater TABLE", Math.max(p, q), x.joinOf(0, 1));
                }
            }
        }
    }

    private static void joinRefusals() {
        for (int place : NO_PLACES) {
            refuses("join: no first PLACE " + place, -1, Bounds::rich, y -> y.join(place, 0));
            refuses("join: no second PLACE " + place, -1, Bounds::rich, y -> y.join(14, place));
            refuses("join: PLACE ahead of one TABLE", -1, Bounds::rich, y -> y.join(place, place));
            refuses("join: first PLACE ahead of room", -1, Bounds::full, y -> y.join(place, 0));
            refuses("join: second PLACE ahead of room", -1, Bounds::full, y -> y.join(0, place));
        }
        refuses("join: PLACE ahead of one TABLE", -1, Bounds::rich, y -> y.join(15, 16));
        refuses("join: PLACE ahead of one TABLE", -1, Bounds::rich, y -> y.join(-1, 0));
        refuses("join: one TABLE ahead of room", -6, Bounds::full, y -> y.join(0, 2));
        refuses("join: one PLACE ahead of room", -6, Bounds::full, y -> y.join(14, 14));
    }

    // ---- promises 21 to 23

    private static void clearEdges() {
        keeps("clear: none", 0, Bounds::blank, y -> y.clear());
        HistogramPlans x = full();
        Due.is("clear: all 16", 16, x.clear());
        Due.is("clear: no FILTERS", 0, x.status(1));
        Due.is("clear: no JOINS", 0, x.status(2));
        Due.is("clear: no FILTER", -5, x.filterOf(0, 0));
        Due.is("clear: no JOIN", -5, x.joinOf(0, 0));
        Due.is("clear: no JOIN", -1, x.joinShare(0));
        Due.is("clear: again", 0, x.clear());
        Due.is("clear: LINES stay", 20, x.status(0));
        x = new HistogramPlans();
        x.filter(0, 0, 0);
        Due.is("clear: a FILTER alone", 1, x.clear());
        x.join(0, 3);
        Due.is("clear: a JOIN alone", 1, x.clear());
        x = rich();
        x.clear();
        Due.is("clear: THE PLAN stays", 4, x.status(3));
        nothingIsLeftOfCleared();
    }

    private static void nothingIsLeftOfCleared() {
        HistogramPlans x = crowd(2);
        x.filter(3, 0, 1);
        x.filter(0, 0, 1);
        x.join(3, 6);
        x.join(0, 4);
        x.clear();
        Due.bits("clear: no FILTER is thought of", 4f, x.thought(3));
        Due.is("clear: no FILTER or JOIN is passed", 8, x.really(7));
        Due.is("clear: no JOIN is a WAY", NONE, x.cost(3, NONE));
        x.filter(6, 1, 1);
        x.join(3, 6);
        Due.bits("clear: the FILTER that is told anew alone", 8f, x.thought(7));
        Due.is("clear: the FILTER and JOIN that are told anew alone", 8, x.really(7));
        Due.is("clear: the JOIN that is told anew is a WAY", 1, x.cost(6, NONE) == NONE ? 0 : 1);
        Due.is("clear: the other JOIN is none", NONE, x.cost(3, NONE));
        Due.is("clear: the other JOIN is none", NONE, x.cost(7, NONE));
    }

    private static void filterOfEdges() {
        keeps("filterOf: the first", 2, Bounds::rich, y -> y.filterOf(0, 1));
        keeps("filterOf: the last", 50, Bounds::rich, y -> y.filterOf(1, 2));
        keeps("filterOf: the last of 8", 97, Bounds::full, y -> y.filterOf(7, 2));
        for (int f : new int[] {-1, 2, 7, 8, LEAST, MOST}) {
            refuses("filterOf: no such one " + f, -5, Bounds::rich, y -> y.filterOf(f, 0));
            refuses("filterOf: none at all", -5, Bounds::blank, y -> y.filterOf(f, 0));
        }
        refuses("filterOf: none at all", -5, Bounds::blank, y -> y.filterOf(0, 0));
        refuses("filterOf: no ninth", -5, Bounds::full, y -> y.filterOf(8, 0));
        for (int what : new int[] {-1, 3, LEAST, MOST}) {
            refuses("filterOf: another what " + what, -5, Bounds::rich, y -> y.filterOf(0, what));
            refuses("filterOf: neither", -5, Bounds::rich, y -> y.filterOf(2, what));
        }
    }

    private static void joinOfEdges() {
        keeps("joinOf: the first", 0, Bounds::rich, y -> y.joinOf(0, 0));
        keeps("joinOf: the first's second", 3, Bounds::rich, y -> y.joinOf(0, 1));
        keeps("joinOf: the last's second", 11, Bounds::rich, y -> y.joinOf(2, 1));
        keeps("joinOf: the last of 8", 10, Bounds::full, y -> y.joinOf(7, 1));
        for (int j : new int[] {-1, 3, 7, 8, LEAST, MOST}) {
            refuses("joinOf: no such one " + j, -5, Bounds::rich, y -> y.joinOf(j, 0));
        }
        refuses("joinOf: none at all", -5, Bounds::blank, y -> y.joinOf(0, 0));
        refuses("joinOf: no ninth", -5, Bounds::full, y -> y.joinOf(8, 1));
        for (int what : new int[] {-1, 2, LEAST, MOST}) {
            refuses("joinOf: another what " + what, -5, Bounds::rich, y -> y.joinOf(0, what));
            refuses("joinOf: neither", -5, Bounds::rich, y -> y.joinOf(3, what));
        }
    }

    // ---- promise 24

    /** So many different VALUES at PLACE 0 and at PLACE 3, each twice if there is room, with a JOIN between them. */
    private static HistogramPlans differing(int first, int second) {
        HistogramPlans x = new HistogramPlans();
        for (int i = 0; i < 16; i++) {
            if (first > 0) {
                x.line(0, i % first, 0, 0);
            }
            if (second > 0) {
                x.line(1, i % second, 0, 0);
            }
        }
        x.join(3, 0);
        return x;
    }

    private static void joinShareByDifferent() {
        for (int first = 0; first <= 16; first++) {
            for (int second = 0; second <= 16; second++) {
                int one = first;
                int two = second;
                int most = Math.max(first, second);
                bits("joinShare: the greater of " + first + " and " + second, most == 0 ? 0f : 1f / most,
                    () -> differing(one, two), y -> y.joinShare(0));
            }
        }
    }

    private static void joinShareEdges() {
        keeps("joinShare: the last of 8", Float.floatToIntBits(1f / 16f), Bounds::full, y -> y.joinShare(7));
        for (int j : new int[] {-1, 3, 7, 8, LEAST, MOST}) {
            refuses("joinShare: no such one " + j, -1, Bounds::rich, y -> y.joinShare(j));
        }
        refuses("joinShare: none at all", -1, Bounds::blank, y -> y.joinShare(0));
        refuses("joinShare: no ninth", -1, Bounds::full, y -> y.joinShare(8));
    }

    // ---- promise 25

    private static void thoughtOfNone() {
        for (int set = 1; set < 32; set++) {
            int of = set;
            bits("thought: no LINES, set " + set, 0f, Bounds::blank, y -> y.thought(of));
        }
        bits("thought: one LINE each", 1f, () -> crowd(1), y -> y.thought(31));
        bits("thought: 16 LINES each", 1048576f, () -> crowd(16), y -> y.thought(31));
        bits("thought: of 16 LINES one TABLE", 16f, () -> crowd(16), y -> y.thought(16));
        bits("thought: a FILTER that nothing passes", 0f, () -> {
            HistogramPlans x = crowd(16);
            x.filter(0, 0, 0);
            return x;
        }, y -> y.thought(31));
        bits("thought: a FILTER without LINES", 0f, () -> {
            HistogramPlans x = new HistogramPlans();
            x.filter(0, 2, 0);
            return x;
        }, y -> y.thought(1));
        bits("thought: a JOIN without LINES", 0f, () -> {
            HistogramPlans x = new HistogramPlans();
            x.join(0, 3);
            return x;
        }, y -> y.thought(3));
    }

    private static void thoughtStepByStep() {
        for (int seed = 1; seed <= 20; seed++) {
            HistogramPlans x = new HistogramPlans();
            x.seed(seed * 104729);
            x.drawn(40);
            x.drawn(10);
            for (int i = 0; i < 8; i++) {
                x.filter((i * 7 + seed) % 15, (i + seed) % 3, 3 + (i * 5 + seed) % 15);
                x.join((i * 4 + seed) % 15, (i * 4 + seed + 3 + i % 2 * 4) % 15);
            }
            float[] ofTables = thoughtsOfTables(x);
            float[][] ofJoins = sharesOfJoins(x);
            for (int set = 1; set < 32; set++) {
                Due.bits("thought of set " + set + ", seed " + seed, thoughtOf(set, ofTables, ofJoins), x.thought(set));
            }
        }
    }

    private static float[] thoughtsOfTables(HistogramPlans x) {
        float[] ofTables = new float[5];
        for (int t = 0; t < 5; t++) {
            ofTables[t] = x.tableOf(t, 0);
        }
        for (int f = 0; f < 8; f++) {
            int place = x.filterOf(f, 0);
            int share = x.share(place, x.filterOf(f, 1), x.filterOf(f, 2));
            ofTables[place / 3] = ofTables[place / 3] * of(share);
        }
        return ofTables;
    }

    /** Of each JOIN: its two TABLES as bits, its SHARE. */
    private static float[][] sharesOfJoins(HistogramPlans x) {
        float[][] ofJoins = new float[8][];
        for (int j = 0; j < 8; j++) {
            int tables = 1 << x.joinOf(j, 0) / 3 | 1 << x.joinOf(j, 1) / 3;
            ofJoins[j] = new float[] {tables, of(x.joinShare(j))};
        }
        return ofJoins;
    }

    private static float thoughtOf(int set, float[] ofTables, float[][] ofJoins) {
        float thought = 1f;
        for (int t = 0; t < 5; t++) {
            thought = (set & 1 << t) == 0 ? thought : thought * ofTables[t];
        }
        for (float[] join : ofJoins) {
            thought = (set & (int) join[0]) == (int) join[0] ? thought * join[1] : thought;
        }
        return thought;
    }

    private static void thoughtWithinTheSet() {
        State joined = () -> {
            HistogramPlans x = new HistogramPlans();
            for (int i = 0; i < 4; i++) {
                x.line(0, i, 0, 0);
                x.line(1, i, 0, 0);
                x.line(4, i, 0, 0);
            }
            x.join(0, 3);
            x.join(3, 12);
            x.filter(12, 0, 2);
            return x;
        };
        bits("thought: a JOIN with one end within", 4f, joined, y -> y.thought(1));
        bits("thought: a JOIN with the other end within", 4f, joined, y -> y.thought(2));
        bits("thought: both ends within", 4f, joined, y -> y.thought(3));
        bits("thought: a JOIN by way of another TABLE", 8f, joined, y -> y.thought(17));
        bits("thought: a FILTER at a TABLE within", 2f, joined, y -> y.thought(16));
        bits("thought: all", 2f, joined, y -> y.thought(19));
    }

    private static void setEdges() {
        for (int set = 1; set < 32; set++) {
            int lines = Integer.bitCount(set);
            HistogramPlans x = crowd(2);
            Due.bits("thought: set " + set, (float) (1 << lines), x.thought(set));
            Due.bits("sorting: set " + set, (float) (1 << lines) * (lines + 1), x.sorting(set));
        }
        for (int set : NO_SETS) {
            refuses("thought: set " + set, -6, Bounds::rich, y -> y.thought(set));
            refuses("sorting: set " + set, -6, Bounds::rich, y -> y.sorting(set));
        }
    }

    // ---- promise 26

    private static void sortingByBinaryDigits() {
        int[] digits = {0, 1, 2, 2, 3, 3, 3, 3, 4, 4, 4, 4, 4, 4, 4, 4, 5};
        for (int n = 0; n <= 16; n++) {
            int lines = n;
            bits("sorting " + n, (float) n * digits[n], () -> {
                HistogramPlans x = new HistogramPlans();
                fill(x, 2, lines);
                return x;
            }, y -> y.sorting(4));
        }
        bits("sorting 225", 225f * 8f, () -> crowd(15), y -> y.sorting(3));
        bits("sorting 256", 256f * 9f, () -> crowd(16), y -> y.sorting(3));
        bits("sorting 1048576", 1048576f * 21f, () -> crowd(16), y -> y.sorting(31));
        bits("sorting 759375", 759375f * 20f, () -> crowd(15), y -> y.sorting(31));
    }

    /** Four LINES 0 to 3 at PLACE 0, one BUCKET each: LESS than v is v / 4. */
    private static HistogramPlans quarters(int lines, int... less) {
        HistogramPlans x = new HistogramPlans();
        for (int i = 0; i < 4; i++) {
            x.line(0, i, 0, 0);
        }
        fill(x, 1, lines);
        for (int v : less) {
            x.filter(0, 0, v);
        }
        return x;
    }

    private static void sortingIsCut() {
        bits("sorting 0.75: none", 0f, () -> quarters(1, 1, 3), y -> y.sorting(1));
        bits("thought 0.75", 0.75f, () -> quarters(1, 1, 3), y -> y.thought(1));
        bits("sorting 1", 1f, () -> quarters(1, 1), y -> y.sorting(1));
        bits("sorting 1.5: one digit", 1.5f, () -> quarters(1, 2, 3), y -> y.sorting(1));
        bits("sorting 1.875: one digit", 1.875f, () -> quarters(5, 2, 3, 1), y -> y.sorting(3));
        bits("sorting 2", 4f, () -> quarters(1, 2), y -> y.sorting(1));
        bits("sorting 2.25: two digits", 4.5f, () -> quarters(1, 3, 3), y -> y.sorting(1));
        bits("sorting 3.75: two digits", 7.5f, () -> quarters(5, 1, 3), y -> y.sorting(3));
        bits("sorting 0", 0f, () -> quarters(1, 0), y -> y.sorting(1));
    }

    // ---- promise 27

    private static void costOfOneTable() {
        for (int t = 0; t < 5; t++) {
            for (int stored = NONE; stored < 3; stored++) {
                for (int order = NONE; order < 15; order++) {
                    HistogramPlans x = new HistogramPlans();
                    fill(x, t, 5);
                    x.filter(3 * t, 0, 0);
                    x.filter(3 * ((t + 1) % 5), 0, 0);
                    x.put(t, 1, stored);
                    boolean outside = order != NONE && order / 3 != t;
                    String what = "cost: TABLE " + t + ", STORED " + stored + ", ORDER " + order;
                    Due.is(what, outside ? NONE : Float.floatToIntBits(5f), x.cost(1 << t, order));
                    x.clear();
                    boolean isSorted = order != NONE && order != 3 * t + stored || order != NONE && stored == NONE;
                    Due.is(what + ", all pass", outside ? NONE : Float.floatToIntBits(isSorted ? 20f : 5f), x.cost(1 << t, order));
                }
            }
        }
        bits("cost: no LINES", 0f, Bounds::blank, y -> y.cost(1, NONE));
        bits("cost: no LINES, sorted", 0f, Bounds::blank, y -> y.cost(1, 2));
        keeps("cost: no LINES, an ORDER outside", NONE, Bounds::blank, y -> y.cost(1, 3));
    }

    /** What the document says of two TABLES, 1 and 3, with a JOIN of PLACES 4 and 11, for each ORDER. */
    private static void costOfTwoTables() {
        for (int lines = 0; lines < 60; lines++) {
            HistogramPlans x = new HistogramPlans();
            x.join(11, 4);
            x.join(5, 9);
            x.seed(lines * 31);
            x.drawn(10 + lines % 31);
            x.put(1, 1, lines % 4 - 1);
            x.put(3, 1, lines / 4 % 4 - 1);
            if (lines % 3 > 0) {
                x.filter(3, 0, 5 * (lines % 3));
            }
            if (lines % 5 > 2) {
                x.filter(10, 2, lines % 13);
            }
            Two two = new Two(x);
            for (int order = NONE; order < 15; order++) {
                float want = two.best(order);
                int bits = want < 0f ? NONE : Float.floatToIntBits(want);
                Due.is("cost of two TABLES, ORDER " + order + ", " + lines, bits, x.cost(10, order));
            }
        }
    }

    private static float of(int bits) {
        return Float.intBitsToFloat(bits);
    }

    /** What is told of TABLES 1 and 3, each asked for once. */
    private static final class Two {
        private final float[] lines = new float[4];
        private final int[] stored = new int[4];
        private final float[] thought = new float[4];
        private final float[] sorting = new float[4];
        private final float both;
        private final float sortingBoth;

        Two(HistogramPlans x) {
            for (int t = 1; t < 4; t += 2) {
                lines[t] = x.tableOf(t, 0);
                stored[t] = x.tableOf(t, 2) == 0 ? NONE : 3 * t + x.tableOf(t, 2) - 1;
                thought[t] = of(x.thought(1 << t));
                sorting[t] = of(x.sorting(1 << t));
            }
            both = of(x.thought(10));
            sortingBoth = of(x.sorting(10));
        }

        /** Below 0: there is no WAY. */
        float best(int order) {
            if (order != NONE && order / 3 != 1 && order / 3 != 3) {
                return -1f;
            }
            float least = Float.MAX_VALUE;
            for (int a = 1; a < 4; a += 2) {
                int b = 4 - a;
                int inA = a == 1 ? 4 : 11;
                int inB = 15 - inA;
                if (order == NONE) {
                    least = Math.min(least, (best(a, NONE) + best(b, NONE)) + ((thought[a] + 2f * thought[b]) + both));
                }
                if (order == NONE || order / 3 == a) {
                    least = Math.min(least, best(a, order) + thought[a] * best(b, NONE));
                }
                if (order == NONE || order == inA) {
                    least = Math.min(least, (best(a, inA) + best(b, inB)) + ((thought[a] + thought[b]) + both));
                }
            }
            return order == NONE ? least : Math.min(least, best(NONE) + sortingBoth);
        }

        private float best(int t, int order) {
            return order == NONE || order == stored[t] ? lines[t] : lines[t] + sorting[t];
        }
    }

    private static void costWithoutWay() {
        State pairs = () -> {
            HistogramPlans x = crowd(2);
            x.join(0, 3);
            x.join(6, 9);
            x.join(8, 12);
            return x;
        };
        int[] without = {5, 6, 7, 9, 10, 11, 13, 14, 15, 17, 18, 19, 21, 22, 23, 24, 25, 26, 27, 29, 30, 31};
        for (int set : without) {
            keeps("cost: set " + set + " has no WAY", NONE, pairs, y -> y.cost(set, NONE));
            int place = 3 * Integer.numberOfTrailingZeros(set);
            keeps("cost: set " + set + " has no WAY to sort", NONE, pairs, y -> y.cost(set, place));
        }
        for (int set : new int[] {1, 2, 3, 4, 8, 12, 16, 20, 28}) {
            HistogramPlans x = pairs.made();
            for (int order = NONE; order < 15; order++) {
                boolean has = order == NONE || (set & 1 << order / 3) != 0;
                Due.is("cost: set " + set + ", ORDER " + order, has ? 1 : 0, x.cost(set, order) == NONE ? 0 : 1);
            }
        }
        keeps("cost: an ORDER outside the set", NONE, pairs, y -> y.cost(3, 6));
        keeps("cost: not even by a JOIN to it", NONE, pairs, y -> y.cost(4, 9));
    }

    private static void costRefusals() {
        for (int set : NO_SETS) {
            refuses("cost: set " + set, -16, Bounds::rich, y -> y.cost(set, NONE));
            refuses("cost: set " + set + " and ORDER", -16, Bounds::rich, y -> y.cost(set, 15));
        }
        for (int order : NO_ORDERS) {
            refuses("cost: ORDER " + order, -16, Bounds::rich, y -> y.cost(1, order));
            refuses("cost: ORDER " + order + " without a WAY", -16, Bounds::blank, y -> y.cost(3, order));
        }
        keeps("cost: leaves THE PLAN", 4, Bounds::rich, y -> {
            y.cost(7, NONE);
            return y.status(3);
        });
    }
}
