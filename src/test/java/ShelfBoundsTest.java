/** The edges of promises 1 to 8: a new object, SHELVES, ROWS, and the NODES that SHELVES come to hold. */
public final class ShelfBoundsTest extends Bounds {
    public static void main(String[] args) {
        newObject();
        objectsShareNothing();
        rowShelves();
        rowSizes();
        rowSorts();
        rowFirstRefusalThatFits();
        rowIsNew();
        setIndexes();
        setRefusals();
        setLowestBits();
        copyEnds();
        copyRefusals();
        copyFirstRefusalThatFits();
        copyAsTheyWereAhead();
        elementIndexes();
        showShelvesAndNodes();
        showStaysThat();
        holdsShelves();
        saysOfEachSort();
        saysRefusals();
        Due.end("ShelfBoundsTest");
    }

    // ---- promise 1

    private static void newObject() {
        HistogramPlans x = new HistogramPlans();
        for (int t = 0; t < 5; t++) {
            Due.is("new: no LINES", 0, x.tableOf(t, 0));
            Due.is("new: BUCKETS are 4", 4, x.tableOf(t, 1));
            Due.is("new: STORED is NONE", 0, x.tableOf(t, 2));
            Due.is("new: no LINE", -5, x.lineOf(t, 0, 0));
        }
        Due.is("new: no FILTERS", 0, x.status(1));
        Due.is("new: no FILTER", -5, x.filterOf(0, 0));
        Due.is("new: no JOINS", 0, x.status(2));
        Due.is("new: no JOIN", -5, x.joinOf(0, 0));
        Due.is("new: no PLAN", 0, x.status(3));
        Due.is("new: no NODE", -5, x.nodeOf(0, 0));
        Due.is("new: SEED is 1", 1, x.status(4));
        Due.is("new: no FAULT", NONE, x.fault());
        Due.is("new: no IMAGE", -6, x.restore());
        for (int s = 0; s < 8; s++) {
            Due.is("new: SHELVES hold NOTHING", NONE, x.holds(s));
        }
        HistogramPlans y = new HistogramPlans();
        for (int kind = 11; kind <= 17; kind++) {
            Due.is("new: no REFUSALS", 0, y.status(kind));
        }
    }

    private static void objectsShareNothing() {
        HistogramPlans x = new HistogramPlans();
        rich();
        spoken();
        areNew("another object's calls", x);
    }

    private static void areNew(String what, HistogramPlans x) {
        Due.is(what + ": as new", 1, allOf(x).equals(allOf(new HistogramPlans())) ? 1 : 0);
    }

    // ---- promise 2

    private static void rowShelves() {
        HistogramPlans x = new HistogramPlans();
        for (int s = 0; s < 8; s++) {
            Due.is("row: SHELF " + s, 1, x.row(s, 1, 2));
            Due.is("row: SHELF " + s, 101, x.holds(s));
        }
        for (int s : NO_SHELVES) {
            refuses("row: no SHELF " + s, -1, Bounds::rich, y -> y.row(s, 0, 1));
        }
    }

    private static void rowSizes() {
        for (int sort = 0; sort < 4; sort++) {
            for (int n : new int[] {0, 1, 2, 159, 160}) {
                HistogramPlans x = new HistogramPlans();
                Due.is("row of " + n, 1, x.row(3, sort, n));
                Due.is("row of " + n, 100 + sort, x.holds(3));
                Due.is("row of " + n + ": elements", n, lengthOf(3, x));
            }
        }
        for (int s : new int[] {0, 4, 5}) {
            for (int n : new int[] {-1, -2, -160, LEAST}) {
                refuses("row of " + n, -4, Bounds::rich, y -> y.row(s, 0, n));
            }
            for (int n : new int[] {161, 162, MOST}) {
                refuses("row of " + n, -7, Bounds::rich, y -> y.row(s, 0, n));
            }
        }
    }

    private static void rowSorts() {
        for (int sort : new int[] {-1, 4, LEAST, MOST}) {
            refuses("row: SORT " + sort, -6, Bounds::rich, y -> y.row(0, sort, 1));
            refuses("row: SORT " + sort + ", of none", -6, Bounds::rich, y -> y.row(5, sort, 0));
        }
    }

    private static void rowFirstRefusalThatFits() {
        refuses("row: SHELF ahead of size", -1, Bounds::rich, y -> y.row(8, 0, -1));
        refuses("row: SHELF ahead of SORT", -1, Bounds::rich, y -> y.row(-1, 4, 0));
        refuses("row: SHELF ahead of room", -1, Bounds::rich, y -> y.row(8, 0, 161));
        refuses("row: SHELF ahead of all", -1, Bounds::rich, y -> y.row(8, -1, LEAST));
        refuses("row: size ahead of SORT", -4, Bounds::rich, y -> y.row(0, 4, -1));
        refuses("row: SORT ahead of room", -6, Bounds::rich, y -> y.row(0, -1, 161));
    }

    private static void rowIsNew() {
        for (int s = 0; s < 8; s++) {
            HistogramPlans x = rich();
            x.row(s, 3, 160);
            for (int i = 0; i < 160; i++) {
                Due.is("row: in place of what SHELF " + s + " held, element " + i, 0, x.element(s, i));
            }
        }
        HistogramPlans x = new HistogramPlans();
        told(x, 0, 2, 5, 6, 7);
        x.row(0, 2, 2);
        x.row(0, 2, 3);
        for (int i = 0; i < 3; i++) {
            Due.is("row: nothing is left of older ones", 0, x.element(0, i));
        }
    }

    // ---- promise 3

    private static void setIndexes() {
        for (int n : new int[] {1, 2, 160}) {
            HistogramPlans x = new HistogramPlans();
            x.row(0, 0, n);
            Due.is("set: the first of " + n, 1, x.set(0, 0, 1));
            Due.is("set: the last of " + n, 1, x.set(0, n - 1, 7));
            Due.is("set: the last of " + n, 7, x.element(0, n - 1));
            Due.is("set: behind the last of " + n, -5, x.set(0, n, 7));
        }
        for (int i : new int[] {-1, 4, 5, 159, LEAST, MOST}) {
            refuses("set: element " + i, -5, Bounds::rich, y -> y.set(0, i, 9));
        }
        refuses("set: behind 160", -5, Bounds::rich, y -> y.set(6, 160, 9));
        refuses("set: the first of none", -5, Bounds::rich, y -> y.set(7, 0, 9));
    }

    private static void setRefusals() {
        for (int s : NO_SHELVES) {
            refuses("set: no SHELF " + s, -1, Bounds::rich, y -> y.set(s, 0, 9));
            refuses("set: SHELF ahead of element", -1, Bounds::rich, y -> y.set(s, -1, 9));
        }
        refuses("set: a NODE", -2, Bounds::rich, y -> y.set(4, 0, 9));
        refuses("set: a NODE ahead of element", -2, Bounds::rich, y -> y.set(4, -1, 9));
        refuses("set: a NODE ahead of element", -2, Bounds::rich, y -> y.set(4, 160, 9));
        refuses("set: NOTHING", -3, Bounds::rich, y -> y.set(5, 0, 9));
        refuses("set: NOTHING ahead of element", -3, Bounds::rich, y -> y.set(5, -1, 9));
        refuses("set: NOTHING ahead of element", -3, Bounds::rich, y -> y.set(5, 160, 9));
    }

    private static void kept(int sort, long v, long want) {
        HistogramPlans x = new HistogramPlans();
        x.row(2, sort, 3);
        Due.is("set: " + v + " in a ROW of SORT " + sort, 1, x.set(2, 1, v));
        Due.is("set: lowest bits of " + v + " in SORT " + sort, want, x.element(2, 1));
        Due.is("set: the element ahead", 0, x.element(2, 0));
        Due.is("set: the element behind", 0, x.element(2, 2));
    }

    private static void setLowestBits() {
        for (int sort = 0; sort < 3; sort++) {
            long half = 1L << (8 << sort) - 1;
            kept(sort, half - 1, half - 1);
            kept(sort, half, -half);
            kept(sort, half + 1, 1 - half);
            kept(sort, 2 * half - 1, -1);
            kept(sort, 2 * half, 0);
            kept(sort, 2 * half + 5, 5);
            kept(sort, -1, -1);
            kept(sort, -half, -half);
            kept(sort, -half - 1, half - 1);
            kept(sort, Long.MAX_VALUE, -1);
            kept(sort, Long.MIN_VALUE, 0);
            kept(sort, Long.MIN_VALUE + 3, 3);
        }
        for (long v : new long[] {0, 1, -1, 1L << 31, 1L << 32, -1L << 32, Long.MAX_VALUE, Long.MIN_VALUE}) {
            kept(3, v, v);
        }
    }

    // ---- promise 4

    private static HistogramPlans fives() {
        HistogramPlans x = rich();
        told(x, 0, 1, 11, 12, 13, 14, 15);
        told(x, 1, 1, 21, 22, 23);
        return x;
    }

    private static void copied(String what, int i, int j, int n, long... want) {
        HistogramPlans x = fives();
        Due.is(what, 1, x.copy(0, 1, i, j, n));
        for (int k = 0; k < want.length; k++) {
            Due.is(what + ": element " + k, want[k], x.element(1, k));
        }
        Due.is(what + ": as long as before", 3, lengthOf(1, x));
    }

    private static void copyEnds() {
        copied("copy: all that fits", 0, 0, 3, 11, 12, 13);
        copied("copy: up to i's end", 2, 0, 3, 13, 14, 15);
        copied("copy: up to j's end", 0, 1, 2, 21, 11, 12);
        copied("copy: the last to the last", 4, 2, 1, 21, 22, 15);
        copied("copy: none", 0, 0, 0, 21, 22, 23);
        copied("copy: none, from both ends on", 5, 3, 0, 21, 22, 23);
        State fives = ShelfBoundsTest::fives;
        refuses("copy: i below 0", -5, fives, y -> y.copy(0, 1, -1, 0, 1));
        refuses("copy: i below 0, none", -5, fives, y -> y.copy(0, 1, -1, 0, 0));
        refuses("copy: i least", -5, fives, y -> y.copy(0, 1, LEAST, 0, 1));
        refuses("copy: j below 0", -5, fives, y -> y.copy(0, 1, 0, -1, 1));
        refuses("copy: j below 0, none", -5, fives, y -> y.copy(0, 1, 0, -1, 0));
        refuses("copy: j least", -5, fives, y -> y.copy(0, 1, 0, LEAST, 1));
        refuses("copy: one behind i's end", -5, fives, y -> y.copy(0, 1, 3, 0, 3));
        refuses("copy: i at its end", -5, fives, y -> y.copy(0, 1, 5, 0, 1));
        refuses("copy: one behind j's end", -5, fives, y -> y.copy(0, 1, 0, 1, 3));
        refuses("copy: j at its end", -5, fives, y -> y.copy(0, 1, 0, 3, 1));
        refuses("copy: more than q has", -5, fives, y -> y.copy(0, 1, 0, 0, 4));
        refuses("copy: more than p has", -5, fives, y -> y.copy(1, 0, 0, 0, 4));
        refuses("copy: none behind i's end", -5, fives, y -> y.copy(0, 1, 6, 0, 0));
        refuses("copy: none behind j's end", -5, fives, y -> y.copy(0, 1, 0, 4, 0));
        refuses("copy: i's end wraps", -5, fives, y -> y.copy(0, 1, 1, 0, MOST));
        refuses("copy: i's end wraps", -5, fives, y -> y.copy(0, 1, MOST, 0, 1));
        refuses("copy: j's end wraps", -5, fives, y -> y.copy(0, 1, 0, MOST, 1));
        refuses("copy: both ends wrap", -5, fives, y -> y.copy(0, 1, MOST, MOST, MOST));
        refuses("copy: i most, none", -5, fives, y -> y.copy(0, 1, MOST, 0, 0));
        HistogramPlans x = rich();
        x.row(0, 2, 160);
        Due.is("copy: 160", 1, x.copy(6, 0, 0, 0, 160));
        Due.is("copy: 160", -9, x.element(0, 159));
        Due.is("copy: none of none", 1, x.copy(7, 7, 0, 0, 0));
        Due.is("copy: one of none", -5, x.copy(7, 7, 0, 0, 1));
    }

    private static void copyRefusals() {
        for (int s : NO_SHELVES) {
            refuses("copy: no SHELF p", -1, Bounds::rich, y -> y.copy(s, 1, 0, 0, 1));
            refuses("copy: no SHELF q", -1, Bounds::rich, y -> y.copy(1, s, 0, 0, 1));
        }
        refuses("copy: p a NODE", -2, Bounds::rich, y -> y.copy(4, 1, 0, 0, 1));
        refuses("copy: q a NODE", -2, Bounds::rich, y -> y.copy(1, 4, 0, 0, 1));
        refuses("copy: both a NODE", -2, Bounds::rich, y -> y.copy(4, 4, 0, 0, 0));
        for (int p = 0; p < 4; p++) {
            for (int q = 0; q < 4; q++) {
                int from = p;
                int to = q;
                if (p == q) {
                    keeps("copy: of one SORT", 1, Bounds::rich, y -> y.copy(from, to, 1, 1, 2));
                } else {
                    refuses("copy: of two SORTS", -2, Bounds::rich, y -> y.copy(from, to, 0, 0, 1));
                }
            }
        }
        refuses("copy: p NOTHING", -3, Bounds::rich, y -> y.copy(5, 1, 0, 0, 1));
        refuses("copy: q NOTHING", -3, Bounds::rich, y -> y.copy(1, 5, 0, 0, 1));
        refuses("copy: both NOTHING", -3, Bounds::rich, y -> y.copy(5, 5, 0, 0, 0));
        refuses("copy: NOTHING has no SORT", -3, Bounds::rich, y -> y.copy(5, 3, 0, 0, 1));
        refuses("copy: NOTHING has no SORT", -3, Bounds::rich, y -> y.copy(3, 5, 0, 0, 1));
        for (int n : new int[] {-1, LEAST}) {
            refuses("copy of " + n, -4, Bounds::rich, y -> y.copy(0, 0, 0, 1, n));
        }
    }

    private static void copyFirstRefusalThatFits() {
        refuses("copy: SHELF ahead of a NODE", -1, Bounds::rich, y -> y.copy(8, 4, 0, 0, 1));
        refuses("copy: SHELF ahead of a NODE", -1, Bounds::rich, y -> y.copy(4, 8, 0, 0, 1));
        refuses("copy: SHELF ahead of NOTHING", -1, Bounds::rich, y -> y.copy(-1, 5, 0, 0, 1));
        refuses("copy: SHELF ahead of NOTHING", -1, Bounds::rich, y -> y.copy(5, -1, 0, 0, 1));
        refuses("copy: SHELF ahead of size", -1, Bounds::rich, y -> y.copy(8, 0, 0, 0, -1));
        refuses("copy: SHELF ahead of elements", -1, Bounds::rich, y -> y.copy(0, 8, -1, 0, 1));
        refuses("copy: a NODE ahead of NOTHING", -2, Bounds::rich, y -> y.copy(4, 5, 0, 0, 1));
        refuses("copy: a NODE ahead of NOTHING", -2, Bounds::rich, y -> y.copy(5, 4, 0, 0, 1));
        refuses("copy: a NODE ahead of size", -2, Bounds::rich, y -> y.copy(4, 0, 0, 0, -1));
        refuses("copy: a NODE ahead of size", -2, Bounds::rich, y -> y.copy(0, 4, 0, 0, -1));
        refuses("copy: a NODE ahead of elements", -2, Bounds::rich, y -> y.copy(4, 0, -1, 0, 1));
        refuses("copy: two SORTS ahead of size", -2, Bounds::rich, y -> y.copy(0, 1, 0, 0, -1));
        refuses("copy: two SORTS ahead of elements", -2, Bounds::rich, y -> y.copy(0, 1, 4, 0, 1));
        refuses("copy: NOTHING ahead of size", -3, Bounds::rich, y -> y.copy(5, 0, 0, 0, -1));
        refuses("copy: NOTHING ahead of size", -3, Bounds::rich, y -> y.copy(0, 5, 0, 0, -1));
        refuses("copy: NOTHING ahead of elements", -3, Bounds::rich, y -> y.copy(5, 0, -1, 0, 1));
        refuses("copy: NOTHING ahead of elements", -3, Bounds::rich, y -> y.copy(0, 5, 0, -1, 1));
        refuses("copy: size ahead of elements", -4, Bounds::rich, y -> y.copy(0, 0, -1, 0, -1));
        refuses("copy: size ahead of elements", -4, Bounds::rich, y -> y.copy(0, 0, 0, 5, -1));
    }

    private static void copyAsTheyWereAhead() {
        for (int sort = 0; sort < 4; sort++) {
            HistogramPlans x = new HistogramPlans();
            told(x, 7, sort, 1, 2, 3, 4, 5);
            Due.is("copy upwards in one ROW", 1, x.copy(7, 7, 0, 2, 3));
            long[] up = {1, 2, 1, 2, 3};
            for (int i = 0; i < 5; i++) {
                Due.is("copy upwards in one ROW: " + i, up[i], x.element(7, i));
            }
            told(x, 7, sort, 1, 2, 3, 4, 5);
            Due.is("copy downwards in one ROW", 1, x.copy(7, 7, 1, 0, 4));
            long[] down = {2, 3, 4, 5, 5};
            for (int i = 0; i < 5; i++) {
                Due.is("copy downwards in one ROW: " + i, down[i], x.element(7, i));
            }
        }
    }

    // ---- promise 5

    private static void elementIndexes() {
        keeps("element: the first", 4, Bounds::rich, y -> y.element(3, 0));
        keeps("element: the last", -4, Bounds::rich, y -> y.element(3, 3));
        keeps("element: the last of 160", -9, Bounds::rich, y -> y.element(6, 159));
        for (int i : new int[] {-1, 4, 160, LEAST, MOST}) {
            keeps("element " + i + " of 4: none", 0, Bounds::rich, y -> y.element(3, i));
        }
        keeps("element 160 of 160: none", 0, Bounds::rich, y -> y.element(6, 160));
        keeps("element 0 of none: none", 0, Bounds::rich, y -> y.element(7, 0));
        keeps("element of a NODE: none", 0, Bounds::rich, y -> y.element(4, 0));
        keeps("element of NOTHING: none", 0, Bounds::rich, y -> y.element(5, 0));
        for (int s : NO_SHELVES) {
            keeps("element of no SHELF: none", 0, Bounds::rich, y -> y.element(s, 0));
        }
        HistogramPlans x = rich();
        told(x, 5, 3, 77);
        x.show(5, 0);
        Due.is("element: a NODE has none of the ROW ahead of it", 0, x.element(5, 0));
        x.show(5, NONE);
        Due.is("element: NOTHING has none of the ROW ahead of it", 0, x.element(5, 0));
        told(x, 5, 3, 77, 78);
        x.row(5, 3, 1);
        Due.is("element: a shorter ROW ends where it ends", 0, x.element(5, 1));
    }

    // ---- promise 6

    private static void showShelvesAndNodes() {
        for (int s = 0; s < 8; s++) {
            HistogramPlans x = rich();
            Due.is("show: the first NODE in SHELF " + s, 1, x.show(s, 0));
            Due.is("show: the first NODE in SHELF " + s, 200 + x.nodeOf(0, 0), x.holds(s));
            Due.is("show: the last NODE in SHELF " + s, 1, x.show(s, 3));
            Due.is("show: the last NODE in SHELF " + s, 200 + x.nodeOf(3, 0), x.holds(s));
            Due.is("show: NONE", 0, x.show(s, NONE));
            Due.is("show: NONE", NONE, x.holds(s));
            Due.is("show: NONE again", 0, x.show(s, NONE));
        }
        for (int s : NO_SHELVES) {
            refuses("show: no SHELF " + s, -1, Bounds::rich, y -> y.show(s, 0));
            refuses("show: no SHELF " + s + ", NONE", -1, Bounds::rich, y -> y.show(s, NONE));
        }
        for (int node : new int[] {-2, 4, 5, LEAST, MOST}) {
            for (int s : new int[] {0, 4, 5}) {
                refuses("show: no NODE " + node, -1, Bounds::rich, y -> y.show(s, node));
            }
        }
        refuses("show: there is no PLAN yet", -1, Bounds::blank, y -> y.show(0, 0));
        refuses("show: neither", -1, Bounds::rich, y -> y.show(8, 4));
        keeps("show: NONE needs no PLAN", 0, Bounds::blank, y -> y.show(0, NONE));
        HistogramPlans x = rich();
        x.plan(1, NONE);
        Due.is("show: the only NODE", 1, x.show(0, 0));
        Due.is("show: a NODE of the PLAN ahead", -1, x.show(0, 1));
    }

    private static void showStaysThat() {
        HistogramPlans x = rich();
        int bits = x.says(4, 0);
        x.plan(7, NONE);
        x.empty(0);
        x.clear();
        x.restore();
        x.plan(2, NONE);
        Due.is("show: it stays a SORT", 204, x.holds(4));
        Due.is("show: its COST stays", bits, x.says(4, 0));
        Due.is("show: its PLACE stays", 1, x.says(4, 4));
    }

    // ---- promise 7

    private static void holdsShelves() {
        for (int s = 0; s < 4; s++) {
            int shelf = s;
            keeps("holds: a ROW of SORT " + s, 100 + s, Bounds::rich, y -> y.holds(shelf));
        }
        keeps("holds: a NODE", 204, Bounds::rich, y -> y.holds(4));
        keeps("holds: NOTHING", NONE, Bounds::rich, y -> y.holds(5));
        keeps("holds: a ROW of none", 100, Bounds::rich, y -> y.holds(7));
        for (int s : NO_SHELVES) {
            keeps("holds: no SHELF " + s, NONE, Bounds::rich, y -> y.holds(s));
        }
        for (int way = 0; way < 5; way++) {
            int shelf = way;
            keeps("holds: a NODE of WAY " + way, 200 + way, Bounds::spoken, y -> y.holds(shelf));
        }
    }

    // ---- promise 8

    private static void saysOfEachSort() {
        int[][] want = {{-2, 3, -2, -2, -2}, {-2, -2, 0, -2, -2}, {-2, -2, 1, -2, -2}, {-2, -2, 0, 12, -2}, {-2, -2, -2, -2, 10}};
        float[] costs = {16f, 16f + 16f + (16f + 2f * 16f + 16f), 2f, 16f + 16f + (16f + 16f + 16f), 16f + 16f * 5f};
        for (int way = 0; way < 5; way++) {
            int shelf = way;
            keeps("says: any of WAY " + way, Float.floatToIntBits(costs[way]), Bounds::spoken, y -> y.says(shelf, 0));
            for (int as = 1; as < 5; as++) {
                int sort = as;
                if (want[way][as] == -2) {
                    refuses("says: WAY " + way + " isn't such a one: " + as, -2, Bounds::spoken, y -> y.says(shelf, sort));
                } else {
                    keeps("says: WAY " + way + " as " + as, want[way][as], Bounds::spoken, y -> y.says(shelf, sort));
                }
            }
        }
    }

    private static void saysRefusals() {
        for (int s : NO_SHELVES) {
            refuses("says: no SHELF " + s, -1, Bounds::spoken, y -> y.says(s, 0));
        }
        for (int as : new int[] {-1, 5, LEAST, MOST}) {
            refuses("says: no such sort " + as, -1, Bounds::spoken, y -> y.says(0, as));
            refuses("says: as, ahead of a ROW", -1, Bounds::spoken, y -> y.says(5, as));
            refuses("says: as, ahead of NOTHING", -1, Bounds::spoken, y -> y.says(6, as));
        }
        for (int as = 0; as < 5; as++) {
            int sort = as;
            refuses("says: a ROW as " + as, -2, Bounds::spoken, y -> y.says(5, sort));
            refuses("says: NOTHING as " + as, -3, Bounds::spoken, y -> y.says(6, sort));
        }
        refuses("says: SHELF 7 holds NOTHING", -3, Bounds::spoken, y -> y.says(7, 0));
    }
}
