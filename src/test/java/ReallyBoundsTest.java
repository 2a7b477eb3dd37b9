/** The edges of promises 30 to 32: what really comes, SUMS, and how wrong the THOUGHT was. */
public final class ReallyBoundsTest extends Bounds {
    public static void main(String[] args) {
        reallyOfNone();
        reallyOfEachSet();
        reallyByFilters();
        reallyByAllFilters();
        reallyByJoins();
        reallyByAllJoins();
        reallyWithoutPartners();
        reallyOfFullTables();
        reallyTooMany();
        reallyRefusals();
        sumOfNone();
        sumOfEachPlace();
        sumTooMany();
        sumRefusals();
        wrongByNone();
        wrongByEitherSide();
        wrongByTooMany();
        Due.end("ReallyBoundsTest");
    }

    private static void bits(String what, float want, State state, Call call) {
        keeps(what, Float.floatToIntBits(want), state, call);
    }

    // ---- promise 30

    private static void reallyOfNone() {
        for (int set = 1; set < 32; set++) {
            int of = set;
            keeps("really: no LINES", 0, Bounds::blank, y -> y.really(of));
        }
        for (int t = 0; t < 5; t++) {
            HistogramPlans x = crowd(2);
            x.empty(t);
            for (int set = 1; set < 32; set++) {
                int want = (set & 1 << t) != 0 ? 0 : 1 << Integer.bitCount(set);
                Due.is("really: one TABLE has no LINES", want, x.really(set));
            }
        }
    }

    private static void reallyOfEachSet() {
        HistogramPlans x = new HistogramPlans();
        int[] lines = {2, 3, 5, 7, 1};
        for (int t = 0; t < 5; t++) {
            fill(x, t, lines[t]);
        }
        for (int set = 1; set < 32; set++) {
            int rows = 1;
            for (int t = 0; t < 5; t++) {
                rows *= (set & 1 << t) != 0 ? lines[t] : 1;
            }
            Due.is("really: set " + set, rows, x.really(set));
        }
        keeps("really: one LINE each", 1, () -> crowd(1), y -> y.really(31));
        keeps("really: 16 LINES", 16, () -> crowd(16), y -> y.really(1));
        keeps("really: four TABLES of 16", 65536, () -> crowd(16), y -> y.really(15));
    }

    private static void reallyByFilters() {
        int[] bounds = {1, 50, 99};
        for (int place = 0; place < 15; place++) {
            for (int b = 0; b < 3; b++) {
                for (int sign = 0; sign < 3; sign++) {
                    HistogramPlans x = new HistogramPlans();
                    for (int v : new int[] {0, 1, 50, 50, 99}) {
                        x.line(place / 3, place % 3 == 0 ? v : 33, place % 3 == 1 ? v : 33, place % 3 == 2 ? v : 33);
                    }
                    x.filter(place, sign, bounds[b]);
                    Due.is("really: PLACE " + place + ", SIGN " + sign + ", VALUE " + bounds[b],
                        rowsBy(sign, bounds[b]), x.really(1 << place / 3));
                }
            }
        }
        State edges = () -> {
            HistogramPlans x = new HistogramPlans();
            x.line(0, 0, 99, 0);
            return x;
        };
        keeps("really: less than 0", 0, filtered(edges, 0, 0, 0), y -> y.really(1));
        keeps("really: equal to 0", 1, filtered(edges, 0, 1, 0), y -> y.really(1));
        keeps("really: greater than 0", 0, filtered(edges, 0, 2, 0), y -> y.really(1));
        keeps("really: less than 1", 1, filtered(edges, 0, 0, 1), y -> y.really(1));
        keeps("really: less than 99", 0, filtered(edges, 1, 0, 99), y -> y.really(1));
        keeps("really: equal to 99", 1, filtered(edges, 1, 1, 99), y -> y.really(1));
        keeps("really: greater than 99", 0, filtered(edges, 1, 2, 99), y -> y.really(1));
        keeps("really: greater than 98", 1, filtered(edges, 1, 2, 98), y -> y.really(1));
    }

    private static int rowsBy(int sign, int bound) {
        int rows = 0;
        for (int v : new int[] {0, 1, 50, 50, 99}) {
            rows += (sign == 0 ? v < bound : sign == 1 ? v == bound : v > bound) ? 1 : 0;
        }
        return rows;
    }

    private static State filtered(State state, int place, int sign, int v) {
        return () -> {
            HistogramPlans x = state.made();
            x.filter(place, sign, v);
            return x;
        };
    }

    private static void reallyByAllFilters() {
        HistogramPlans x = new HistogramPlans();
        for (int i = 0; i < 16; i++) {
            x.line(3, i, i, i);
            x.line(4, i, i, i);
        }
        for (int f = 0; f < 8; f++) {
            x.filter(9 + f % 6, 2, f);
            Due.is("really: " + (f + 1) + " FILTERS, TABLE 3", 16 - leastPassing(f, 0), x.really(8));
            Due.is("really: " + (f + 1) + " FILTERS, TABLE 4", 16 - leastPassing(f, 1), x.really(16));
            Due.is("really: " + (f + 1) + " FILTERS, both", (16 - leastPassing(f, 0)) * (16 - leastPassing(f, 1)), x.really(24));
        }
    }

    /** Of FILTERS 0 to f, each for VALUES greater than its number, at TABLE 3 (0) or 4 (1): the least VALUE that passes. */
    private static int leastPassing(int f, int table) {
        int least = 0;
        for (int i = 0; i <= f; i++) {
            least = i % 6 / 3 == table ? i + 1 : least;
        }
        return least;
    }

    /** TABLES 0, 2 and 4 have VALUES 1, 1, 2 at their first PLACE and 5, 6, 7 at their second. */
    private static HistogramPlans threes() {
        HistogramPlans x = new HistogramPlans();
        for (int t = 0; t < 5; t += 2) {
            x.line(t, 1, 5, 1);
            x.line(t, 1, 6, 1);
            x.line(t, 2, 7, 1);
        }
        return x;
    }

    private static State joined(int... places) {
        return () -> {
            HistogramPlans x = threes();
            for (int i = 0; i < places.length; i += 2) {
                x.join(places[i], places[i + 1]);
            }
            return x;
        };
    }

    private static void reallyByJoins() {
        keeps("really: no JOIN", 9, joined(), y -> y.really(5));
        keeps("really: a JOIN", 5, joined(0, 6), y -> y.really(5));
        keeps("really: a JOIN, the other way about", 5, joined(6, 0), y -> y.really(5));
        keeps("really: a JOIN by other PLACES", 3, joined(1, 7), y -> y.really(5));
        keeps("really: a JOIN of two COLUMNS", 0, joined(0, 7), y -> y.really(5));
        keeps("really: a JOIN twice", 5, joined(0, 6, 0, 6), y -> y.really(5));
        keeps("really: two JOINS", 3, joined(0, 6, 1, 7), y -> y.really(5));
        keeps("really: a JOIN of one that isn't in the set", 9, joined(0, 12), y -> y.really(5));
        keeps("really: a JOIN and one that is without", 15, joined(0, 6), y -> y.really(21));
        keeps("really: a row of JOINS", 9, joined(0, 6, 6, 12), y -> y.really(21));
        keeps("really: by way of one that isn't in the set", 9, joined(0, 6, 6, 12), y -> y.really(17));
        keeps("really: a ring of JOINS", 5, joined(0, 6, 6, 12, 1, 13), y -> y.really(21));
        keeps("really: a ring that nothing passes", 0, joined(0, 6, 6, 12, 0, 13), y -> y.really(21));
        State filtered = () -> {
            HistogramPlans x = joined(0, 6).made();
            x.filter(7, 2, 5);
            x.filter(13, 1, 5);
            return x;
        };
        keeps("really: JOINS and FILTERS", 3, filtered, y -> y.really(5));
        keeps("really: JOINS and FILTERS", 3, filtered, y -> y.really(21));
    }

    private static void reallyByAllJoins() {
        HistogramPlans x = threes();
        for (int j = 0; j < 7; j++) {
            x.join(2, 8);
            Due.is("really: JOINS that all pass", 9, x.really(5));
        }
        x.join(1, 7);
        Due.is("really: the eighth JOIN", 3, x.really(5));
    }

    private static void reallyWithoutPartners() {
        HistogramPlans x = new HistogramPlans();
        for (int v : new int[] {4, 5, 9}) {
            x.line(0, v, v, 0);
        }
        x.line(1, 4, 0, 1);
        x.line(2, 5, 0, 1);
        x.line(2, 4, 0, 2);
        x.join(0, 3);
        Due.is("really: one LINE has a partner", 1, x.really(3));
        Due.is("really: and all of another TABLE", 2, x.really(7));
        x.join(1, 6);
        Due.is("really: one LINE has both partners", 1, x.really(7));
        Due.is("really: two LINES have the other", 2, x.really(5));
        x.join(5, 8);
        Due.is("really: no partners of one another", 0, x.really(7));
        x.line(1, 5, 0, 1);
        Due.is("really: partners of one another", 1, x.really(7));
        x.empty(1);
        Due.is("really: no partners any more", 0, x.really(7));
        x.line(1, 4, 0, 2);
        Due.is("really: no LINES that were", 1, x.really(7));
    }

    private static void reallyOfFullTables() {
        HistogramPlans x = new HistogramPlans();
        for (int i = 0; i < 16; i++) {
            for (int t = 0; t < 5; t++) {
                x.line(t, i, i / 8, 15 - i);
            }
        }
        x.join(0, 3);
        Due.is("really: two TABLES of 16", 16, x.really(3));
        Due.is("really: and the next TABLE", 256, x.really(7));
        x.join(4, 7);
        Due.is("really: three TABLES of 16", 16 * 8, x.really(7));
        x.join(6, 11);
        Due.is("really: four TABLES of 16", 16 * 8, x.really(15));
        x.join(10, 13);
        Due.is("really: five TABLES of 16", 16 * 8 * 8, x.really(31));
        Due.is("really: the last two", 16 * 8, x.really(24));
        Due.is("sum: the first", 8 * 8 * 120, x.sum(31, 0));
        Due.is("sum: the last", 16 * 8 * 8 / 2, x.sum(31, 13));
    }

    /** In each TABLE 10 LINES of one VALUE and so many of another, all joined: 100,000 and that many to the fifth. */
    private static HistogramPlans grouped(int others) {
        HistogramPlans x = new HistogramPlans();
        for (int t = 0; t < 5; t++) {
            for (int i = 0; i < 10 + others; i++) {
                x.line(t, i < 10 ? 3 : 4, 0, 0);
            }
            if (t > 0) {
                x.join(3 * t - 3, 3 * t);
            }
        }
        return x;
    }

    /** 813 rows of TABLES 0 to 2, 123 rows of TABLES 3 and 4: 99,999. */
    private static HistogramPlans oneLess() {
        HistogramPlans x = new HistogramPlans();
        int[] ones = {9, 9, 10, 11, 11};
        int[] twos = {3, 1, 1, 2, 1};
        for (int t = 0; t < 5; t++) {
            for (int i = 0; i < ones[t] + twos[t]; i++) {
                x.line(t, i < ones[t] ? 1 : 2, 0, 0);
            }
        }
        x.join(0, 3);
        x.join(3, 6);
        x.join(9, 12);
        return x;
    }

    private static void reallyTooMany() {
        keeps("really: 99,999", 99999, ReallyBoundsTest::oneLess, y -> y.really(31));
        keeps("really: 100,000", 100000, () -> grouped(0), y -> y.really(31));
        refuses("really: 100,001", -5, () -> grouped(1), y -> y.really(31));
        refuses("really: 100,032", -5, () -> grouped(2), y -> y.really(31));
        keeps("really: 100,000 without JOINS", 100000, () -> crowd(10), y -> y.really(31));
        refuses("really: 1,048,576", -5, () -> crowd(16), y -> y.really(31));
        keeps("really: 1,048,576, but a FILTER", 65536, filtered(() -> {
            HistogramPlans x = crowd(15);
            x.line(4, 9, 9, 9);
            for (int t = 0; t < 4; t++) {
                x.line(t, 1, 2, 3);
            }
            return x;
        }, 12, 1, 9), y -> y.really(31));
        HistogramPlans x = grouped(1);
        x.filter(0, 0, 4);
        Due.is("really: 100,001, but a FILTER", 100000, x.really(31));
    }

    private static void reallyRefusals() {
        for (int set : NO_SETS) {
            refuses("really: set " + set, -6, Bounds::rich, y -> y.really(set));
            refuses("really: set " + set + " of many", -6, () -> crowd(16), y -> y.really(set));
        }
    }

    // ---- promise 31

    private static void sumOfNone() {
        keeps("sum: no LINES", 0, Bounds::blank, y -> y.sum(1, 0));
        keeps("sum: no LINES in another TABLE", 0, Bounds::rich, y -> y.sum(5, 0));
        keeps("sum: no LINES here", 0, Bounds::rich, y -> y.sum(5, 6));
        keeps("sum: VALUES 0", 0, () -> {
            HistogramPlans x = new HistogramPlans();
            fill(x, 0, 16);
            return x;
        }, y -> y.sum(1, 1));
        keeps("sum: nothing passes", 0, filtered(() -> crowd(16), 0, 0, 0), y -> y.sum(31, 14));
    }

    private static void sumOfEachPlace() {
        State pairs = joined(0, 6);
        int[] of5 = {2 + 2 + 2, 10 + 12 + 7, 5, -6, -6, -6, 6, 10 + 12 + 7, 5, -6, -6, -6, -6, -6, -6};
        for (int place = 0; place < 15; place++) {
            int at = place;
            if (of5[place] == -6) {
                refuses("sum: the TABLE of PLACE " + place + " isn't in it", -6, pairs, y -> y.sum(5, at));
            } else {
                keeps("sum: PLACE " + place, of5[place], pairs, y -> y.sum(5, at));
            }
        }
        keeps("sum: the last PLACE", 5 * 3, pairs, y -> y.sum(21, 14));
        keeps("sum: the last PLACE but one", 5 * 18, pairs, y -> y.sum(21, 13));
        keeps("sum: the first PLACE of three TABLES", 18, pairs, y -> y.sum(21, 0));
    }

    private static void sumTooMany() {
        keeps("sum: of 99,999", 123 * 816, ReallyBoundsTest::oneLess, y -> y.sum(31, 0));
        keeps("sum: of 99,999", 813 * 125, ReallyBoundsTest::oneLess, y -> y.sum(31, 12));
        keeps("sum: of 100,000", 300000, () -> grouped(0), y -> y.sum(31, 9));
        State most = () -> {
            HistogramPlans x = new HistogramPlans();
            for (int i = 0; i < 50; i++) {
                x.line(i / 10, 99, 99, 99);
            }
            return x;
        };
        keeps("sum: of 100,000 greatest VALUES", 9900000, most, y -> y.sum(31, 14));
        for (int place = 0; place < 15; place++) {
            int at = place;
            refuses("sum: of 100,001", -5, () -> grouped(1), y -> y.sum(31, at));
            refuses("sum: of 1,048,576", -5, () -> crowd(16), y -> y.sum(31, at));
        }
    }

    private static void sumRefusals() {
        for (int place : NO_PLACES) {
            refuses("sum: no PLACE " + place, -1, Bounds::rich, y -> y.sum(1, place));
            refuses("sum: PLACE ahead of TOO MANY", -1, () -> crowd(16), y -> y.sum(31, place));
            refuses("sum: PLACE ahead of set", -1, Bounds::rich, y -> y.sum(0, place));
        }
        for (int set : NO_SETS) {
            refuses("sum: set " + set, -6, Bounds::rich, y -> y.sum(set, 0));
            refuses("sum: set " + set + " may not be: it has not TOO MANY", -6, () -> crowd(16), y -> y.sum(set, 0));
        }
        refuses("sum: the TABLE isn't in the set", -6, Bounds::rich, y -> y.sum(30, 2));
        refuses("sum: the TABLE isn't in the set", -6, Bounds::rich, y -> y.sum(15, 12));
        refuses("sum: the TABLE isn't in the set, many come", -6, () -> crowd(16), y -> y.sum(30, 0));
    }

    // ---- promise 32

    private static void wrongByNone() {
        bits("wrongBy: both are 0", 1f, Bounds::blank, y -> y.wrongBy(1));
        bits("wrongBy: both are 0", 1f, Bounds::rich, y -> y.wrongBy(31));
        State gap = filtered(() -> {
            HistogramPlans x = new HistogramPlans();
            x.put(0, 0, 1);
            x.line(0, 1, 0, 0);
            x.line(0, 3, 0, 0);
            return x;
        }, 0, 1, 2);
        bits("wrongBy: one is thought of", 1f, gap, y -> y.thought(1));
        keeps("wrongBy: none comes", 0, gap, y -> y.really(1));
        bits("wrongBy: REALLY alone is 0", 0f, gap, y -> y.wrongBy(1));
        State thin = filtered(() -> {
            HistogramPlans x = new HistogramPlans();
            x.put(0, 0, 1);
            x.line(0, 0, 0, 0);
            x.line(0, 0, 0, 0);
            x.line(0, 9, 0, 0);
            return x;
        }, 0, 2, 8);
        bits("wrongBy: none is thought of", 0f, thin, y -> y.thought(1));
        keeps("wrongBy: one comes", 1, thin, y -> y.really(1));
        bits("wrongBy: THOUGHT alone is 0", 0f, thin, y -> y.wrongBy(1));
    }

    private static void wrongByEitherSide() {
        bits("wrongBy: not at all", 1f, () -> crowd(3), y -> y.wrongBy(31));
        State more = joined(0, 6);
        bits("wrongBy: THOUGHT", 4.5f, more, y -> y.thought(5));
        bits("wrongBy: REALLY is more", 5f / 4.5f, more, y -> y.wrongBy(5));
        State less = joined(0, 7);
        bits("wrongBy: nothing comes", 0f, less, y -> y.wrongBy(5));
        State both = joined(0, 6, 1, 7);
        bits("wrongBy: THOUGHT of two JOINS", 9f * (1f / 2f) * (1f / 3f), both, y -> y.thought(5));
        bits("wrongBy: REALLY is twice as much", 3f / (9f * (1f / 2f) * (1f / 3f)), both, y -> y.wrongBy(5));
        State crossed = filtered(joined(), 0, 1, 2);
        bits("wrongBy: exact", 1f, crossed, y -> y.wrongBy(1));
        State one = filtered(() -> {
            HistogramPlans x = threes();
            x.put(0, 0, 1);
            return x;
        }, 0, 1, 2);
        bits("wrongBy: THOUGHT is more", (3f * (3f / 2f / 3f)) / 1f, one, y -> y.wrongBy(1));
    }

    private static void wrongByTooMany() {
        for (int set : NO_SETS) {
            refuses("wrongBy: set " + set, -6, Bounds::rich, y -> y.wrongBy(set));
            refuses("wrongBy: set " + set + " of many", -6, () -> crowd(16), y -> y.wrongBy(set));
        }
        HistogramPlans x = oneLess();
        float thought = Float.intBitsToFloat(x.thought(31));
        float over = thought / 99999f;
        float under = 99999f / thought;
        Due.bits("wrongBy: 99,999", over >= under ? over : under, x.wrongBy(31));
        bits("wrongBy: 100,000", 1f, () -> grouped(0), y -> y.wrongBy(31));
        refuses("wrongBy: 100,001", -5, () -> grouped(1), y -> y.wrongBy(31));
        refuses("wrongBy: 1,048,576", -5, () -> crowd(16), y -> y.wrongBy(31));
        bits("wrongBy: 65,536", 1f, () -> crowd(16), y -> y.wrongBy(30));
    }
}
