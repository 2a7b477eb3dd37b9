import java.util.LinkedHashMap;
import java.util.LinkedHashSet;
import java.util.Map;
import java.util.Set;

/** What the tests of edges share: states to start from, and a look at all that an object tells of itself. */
abstract class Bounds {
    static final int NONE = HistogramPlans.NONE;
    static final int LEAST = Integer.MIN_VALUE;
    static final int MOST = Integer.MAX_VALUE;
    static final int[] NO_SHELVES = {-1, 8, LEAST, MOST};
    static final int[] NO_TABLES = {-1, 5, LEAST, MOST};
    static final int[] NO_PLACES = {-1, 15, LEAST, MOST};
    static final int[] NO_VALUES = {-1, 100, LEAST, MOST};
    static final int[] NO_SIGNS = {-1, 3, LEAST, MOST};
    static final int[] NO_SETS = {0, 32, -1, LEAST, MOST};
    static final int[] NO_ORDERS = {-2, 15, LEAST, MOST};

    interface State {
        HistogramPlans made();
    }

    interface Call {
        long on(HistogramPlans x);
    }

    // ---- what a call leaves as it was

    /** The call is refused, and nothing changes but how many such refusals there were. */
    static void refuses(String what, long number, State state, Call call) {
        HistogramPlans x = state.made();
        Due.is(what, number, call.on(x));
        Map<String, Long> want = allOf(state.made());
        want.merge("status(" + kindOf(number) + ")", 1L, Long::sum);
        areTheSame(what, want, allOf(x));
    }

    /** A read() that finds a FAULT tells of it, and changes nothing else. */
    static void failsAt(String what, int place, State state, Call read) {
        HistogramPlans x = state.made();
        Due.is(what, -6, read.on(x));
        Map<String, Long> want = allOf(state.made());
        want.merge("status(16)", 1L, Long::sum);
        want.put("fault()", (long) place);
        areTheSame(what, want, allOf(x));
    }

    /** The call is answered, nothing is refused, and nothing changes. */
    static void keeps(String what, long answer, State state, Call call) {
        HistogramPlans x = state.made();
        Due.is(what, answer, call.on(x));
        areTheSame(what, allOf(state.made()), allOf(x));
    }

    private static long kindOf(long number) {
        return number <= -11 ? -number : 10 - number;
    }

    private static void areTheSame(String what, Map<String, Long> want, Map<String, Long> got) {
        Set<String> keys = new LinkedHashSet<>(want.keySet());
        keys.addAll(got.keySet());
        for (String key : keys) {
            Due.is(what + ": behind it " + key, want.getOrDefault(key, -99L), got.getOrDefault(key, -99L));
        }
    }

    /** Some 250 calls at most, of the 512 that an object is used for; the last of them changes the object. */
    static Map<String, Long> allOf(HistogramPlans x) {
        Map<String, Long> all = new LinkedHashMap<>();
        for (int what = -1; what < 20; what++) {
            all.put("status(" + what + ")", (long) x.status(what));
        }
        all.put("fault()", (long) x.fault());
        for (int i = 0; i < x.status(3); i++) {
            for (int what = 0; what < 6; what++) {
                all.put("nodeOf(" + i + ", " + what + ")", (long) x.nodeOf(i, what));
            }
        }
        for (int s = 0; s < 8; s++) {
            putShelf(all, s, x);
        }
        putWorld(all, "", x);
        int restored = x.restore();
        all.put("restore()", (long) restored);
        if (restored >= 0) {
            putWorld(all, "restored ", x);
        }
        return all;
    }

    private static void putShelf(Map<String, Long> all, int s, HistogramPlans x) {
        int held = x.holds(s);
        all.put("holds(" + s + ")", (long) held);
        if (held >= 200) {
            for (int as = 0; as < 5; as++) {
                all.put("says(" + s + ", " + as + ")", (long) x.says(s, as));
            }
        } else if (held >= 100) {
            int length = lengthOf(s, x);
            all.put("length of " + s, (long) length);
            for (int i = 0; i < length; i++) {
                if (i < 5 || i >= length - 2) {
                    all.put("element(" + s + ", " + i + ")", x.element(s, i));
                }
            }
        }
    }

    /** The most elements that can be copied from a ROW to itself. */
    static int lengthOf(int s, HistogramPlans x) {
        int least = 0;
        int most = 256;
        while (least < most) {
            int n = (least + most + 1) / 2;
            if (x.copy(s, s, 0, 0, n) == 1) {
                least = n;
            } else {
                most = n - 1;
            }
        }
        return least;
    }

    private static void putWorld(Map<String, Long> all, String when, HistogramPlans x) {
        for (int what : new int[] {0, 1, 2, 4}) {
            all.put(when + "status(" + what + ")", (long) x.status(what));
        }
        for (int t = 0; t < 5; t++) {
            for (int what = 0; what < 3; what++) {
                all.put(when + "tableOf(" + t + ", " + what + ")", (long) x.tableOf(t, what));
            }
            for (int i = 0; i < x.tableOf(t, 0); i++) {
                for (int column = 0; column < 3; column++) {
                    all.put(when + "lineOf(" + t + ", " + i + ", " + column + ")", (long) x.lineOf(t, i, column));
                }
            }
        }
        for (int f = 0; f < x.status(1); f++) {
            for (int what = 0; what < 3; what++) {
                all.put(when + "filterOf(" + f + ", " + what + ")", (long) x.filterOf(f, what));
            }
        }
        for (int j = 0; j < x.status(2); j++) {
            for (int what = 0; what < 2; what++) {
                all.put(when + "joinOf(" + j + ", " + what + ")", (long) x.joinOf(j, what));
            }
        }
    }

    // ---- states

    static HistogramPlans blank() {
        return new HistogramPlans();
    }

    static void text(HistogramPlans x, int s, int sort, String text) {
        x.row(s, sort, text.length());
        for (int i = 0; i < text.length(); i++) {
            x.set(s, i, text.charAt(i));
        }
    }

    static void told(HistogramPlans x, int s, int sort, long... elements) {
        x.row(s, sort, elements.length);
        for (int i = 0; i < elements.length; i++) {
            x.set(s, i, elements[i]);
        }
    }

    /** So many LINES 0, 0, 0 more. */
    static void fill(HistogramPlans x, int t, int lines) {
        for (int i = 0; i < lines; i++) {
            x.line(t, 0, 0, 0);
        }
    }

    /**
     * Something of each kind. SHELVES 0 to 3: ROWS of bytes, shorts, ints, longs with 4 elements each;
     * 4: a NODE, a SORT by PLACE 1; 5: NOTHING; 6: a ROW of 160 ints; 7: a ROW of no bytes. The FAULT is 0,
     * THE PLAN has 4 NODES (SORT, LOOP, READ, READ), THE IMAGE is another than what is now, and of each
     * REFUSAL there were some.
     */
    static HistogramPlans rich() {
        HistogramPlans x = new HistogramPlans();
        richWorld(x);
        for (int s = 0; s < 4; s++) {
            told(x, s, s, s + 1, -2, 30 + s, -4);
        }
        x.row(6, 2, 160);
        x.set(6, 0, 't');
        x.set(6, 159, -9);
        x.row(7, 0, 0);
        x.read(7);
        x.plan(1, 1);
        x.show(4, 0);
        x.plan(3, 3);
        for (int i = 0; i < 2; i++) {
            x.empty(-1);
            x.set(4, 0, 0);
            x.set(5, 0, 0);
            x.row(0, 0, -1);
            x.lineOf(0, 16, 0);
            x.thought(0);
            x.row(0, 0, 161);
        }
        x.empty(5);
        return x;
    }

    private static void richWorld(HistogramPlans x) {
        x.line(0, 1, 5, 9);
        x.line(0, 2, 6, 9);
        x.line(0, 3, 7, 8);
        x.line(1, 1, 5, 0);
        x.line(1, 2, 5, 0);
        x.put(0, 0, 2);
        x.put(1, 1, 0);
        x.put(4, 0, 8);
        x.put(4, 1, 2);
        x.filter(0, 2, 1);
        x.join(3, 0);
        x.join(4, 8);
        x.seed(-77);
        x.image();
        x.line(1, 3, 5, 99);
        x.line(3, 1, 1, 1);
        x.put(2, 0, 1);
        x.put(1, 1, 2);
        x.filter(8, 0, 50);
        x.join(2, 11);
        x.seed(4242);
    }

    /** TABLE 0 has 16 LINES, the others one each; there are 8 FILTERS and 8 JOINS. */
    static HistogramPlans full() {
        HistogramPlans x = new HistogramPlans();
        for (int i = 0; i < 16; i++) {
            x.line(0, i, 20 + i, 40 + i);
        }
        for (int t = 1; t < 5; t++) {
            x.line(t, t, t, t);
        }
        for (int i = 0; i < 8; i++) {
            x.filter(i, i % 3, 90 + i);
            x.join(i % 3, 3 + i);
        }
        return x;
    }

    /** So many LINES in each TABLE, all alike: without JOINS that many times itself five times come. */
    static HistogramPlans crowd(int lines) {
        HistogramPlans x = new HistogramPlans();
        for (int t = 0; t < 5; t++) {
            for (int i = 0; i < lines; i++) {
                x.line(t, 1, 2, 3);
            }
        }
        return x;
    }

    /**
     * SHELVES 0 to 4 hold a NODE of each WAY, by its number: a READ of TABLE 3, PAIRS of TABLES 3 and 4
     * (HASH by JOIN 0, LOOP by JOIN 1, MERGE by JOIN 0 with PLACE 12 in B), a SORT by PLACE 10; 5 a ROW, 6 and 7 NOTHING.
     */
    static HistogramPlans spoken() {
        HistogramPlans x = new HistogramPlans();
        for (int i = 0; i < 16; i++) {
            x.line(3, i, 0, 0);
            x.line(4, i, 0, 0);
        }
        x.join(9, 12);
        x.plan(24, NONE);
        x.show(1, 0);
        x.put(3, 1, 0);
        x.put(4, 1, 0);
        x.plan(24, NONE);
        x.show(3, 0);
        x.show(0, 1);
        x.plan(8, 10);
        x.show(4, 0);
        x.line(0, 1, 1, 1);
        x.line(1, 1, 1, 1);
        x.join(0, 3);
        x.plan(3, NONE);
        x.show(2, 0);
        x.row(5, 0, 1);
        return x;
    }
}
