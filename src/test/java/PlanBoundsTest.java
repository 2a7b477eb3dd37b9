/** The edges of promises 28, 29 and 33: THE PLAN, its NODES, and told PLANS. */
public final class PlanBoundsTest extends Bounds {
    private static final int READ = 0;
    private static final int HASH = 1;
    private static final int LOOP = 2;
    private static final int MERGE = 3;
    private static final int SORT = 4;

    public static void main(String[] args) {
        planSets();
        planRefusals();
        planWithoutWay();
        readAheadOfSort();
        firstOfLeastCost();
        splitsFromTheLeast();
        firstJoinBetween();
        hashLoopAndMerge();
        costsStepByStep(MERGE);
        costsStepByStep(HASH);
        costsStepByStep(LOOP);
        loopKeepsTheOrderOfA();
        mergeGivesThePlaceInA();
        mergeOfSorts();
        nodesOfFiveTables();
        planStaysAsItWas();
        nodeOfEdges();
        judgeByNodes();
        judgeSizes();
        judgeAsInts();
        judgeRefusals();
        judgeFirstRefusalThatFits();
        Due.end("PlanBoundsTest");
    }

    // ---- promises 28 and 29

    /** Each NODE: WAY, set, the ORDER wanted and 1, J and 1, how many NODES with all below it. */
    private static void nodes(String what, HistogramPlans x, int[]... want) {
        Due.is(what + ": how many", want.length, x.status(3));
        for (int i = 0; i < want.length; i++) {
            int[] fields = {0, 1, 2, 4, 5};
            for (int k = 0; k < 5; k++) {
                Due.is(what + ": nodeOf(" + i + ", " + fields[k] + ")", want[i][k], x.nodeOf(i, fields[k]));
            }
        }
        Due.is(what + ": no more", -5, x.nodeOf(want.length, 0));
    }

    private static int[] node(int... fields) {
        return fields;
    }

    private static void planSets() {
        HistogramPlans x = new HistogramPlans();
        for (int t = 0; t < 5; t++) {
            Due.is("plan: TABLE " + t, 1, x.plan(1 << t, NONE));
            nodes("plan: TABLE " + t, x, node(READ, 1 << t, 0, 0, 1));
            Due.is("plan: its first PLACE", 2, x.plan(1 << t, 3 * t));
            nodes("plan: its first PLACE", x, node(SORT, 1 << t, 3 * t + 1, 0, 2), node(READ, 1 << t, 0, 0, 1));
            Due.is("plan: its last PLACE", 2, x.plan(1 << t, 3 * t + 2));
            Due.is("plan: the PLACE behind", -5, x.plan(1 << t, t == 4 ? 0 : 3 * t + 3));
            Due.is("plan: the PLACE ahead", -5, x.plan(1 << t, t == 0 ? 14 : 3 * t - 1));
        }
        for (int t = 1; t < 5; t++) {
            x.join(0, 3 * t);
        }
        for (int set = 1; set < 32; set++) {
            boolean has = (set & 1) == 1 || Integer.bitCount(set) == 1;
            Due.is("plan: set " + set, has ? 2 * Integer.bitCount(set) - 1 : -5, x.plan(set, NONE));
        }
    }

    private static void planRefusals() {
        for (int set : NO_SETS) {
            refuses("plan: set " + set, -6, Bounds::rich, y -> y.plan(set, NONE));
            refuses("plan: set " + set + " and ORDER", -6, Bounds::rich, y -> y.plan(set, 15));
            refuses("plan: set " + set + ", first PLACE", -6, Bounds::rich, y -> y.plan(set, 0));
        }
        for (int order : NO_ORDERS) {
            refuses("plan: ORDER " + order, -6, Bounds::rich, y -> y.plan(1, order));
            refuses("plan: ORDER ahead of no WAY", -6, Bounds::rich, y -> y.plan(17, order));
            refuses("plan: ORDER " + order + ", no PLAN yet", -6, Bounds::blank, y -> y.plan(1, order));
        }
    }

    private static void planWithoutWay() {
        refuses("plan: not connected", -5, Bounds::rich, y -> y.plan(17, NONE));
        refuses("plan: not connected, with an ORDER", -5, Bounds::rich, y -> y.plan(17, 0));
        refuses("plan: connected by way of a TABLE outside", -5, Bounds::rich, y -> y.plan(5, NONE));
        refuses("plan: a part is not connected", -5, Bounds::rich, y -> y.plan(19, NONE));
        refuses("plan: an ORDER outside", -5, Bounds::rich, y -> y.plan(1, 3));
        refuses("plan: an ORDER outside of several", -5, Bounds::rich, y -> y.plan(3, 14));
        refuses("plan: no WAY, no PLAN yet", -5, Bounds::blank, y -> y.plan(3, NONE));
    }

    private static void readAheadOfSort() {
        HistogramPlans x = new HistogramPlans();
        x.put(2, 1, 1);
        x.plan(4, 7);
        nodes("plan: READ gives ORDER STORED", x, node(READ, 4, 8, 0, 1));
        x.plan(4, 6);
        nodes("plan: another ORDER than STORED", x, node(SORT, 4, 7, 0, 2), node(READ, 4, 0, 0, 1));
        x.put(2, 1, NONE);
        x.plan(4, 7);
        nodes("plan: STORED is NONE", x, node(SORT, 4, 8, 0, 2), node(READ, 4, 0, 0, 1));
        x.put(2, 1, 0);
        x.plan(4, NONE);
        nodes("plan: any", x, node(READ, 4, 0, 0, 1));
    }

    /** Without LINES all COSTS are 0. */
    private static void firstOfLeastCost() {
        HistogramPlans x = new HistogramPlans();
        x.join(4, 9);
        x.plan(10, NONE);
        nodes("plan: HASH is the first", x, node(HASH, 10, 0, 1, 3), node(READ, 2, 0, 0, 1), node(READ, 8, 0, 0, 1));
        x.plan(10, 4);
        nodes("plan: LOOP ahead of MERGE", x, node(LOOP, 10, 5, 1, 4), node(SORT, 2, 5, 0, 2),
            node(READ, 2, 0, 0, 1), node(READ, 8, 0, 0, 1));
        x.plan(10, 11);
        nodes("plan: LOOP ahead of SORT", x, node(LOOP, 10, 12, 1, 4), node(SORT, 8, 12, 0, 2),
            node(READ, 8, 0, 0, 1), node(READ, 2, 0, 0, 1));
        for (int i = 0; i < 2; i++) {
            x.line(1, i, i, i);
        }
        x.line(3, 0, 0, 0);
        x.line(3, 1, 1, 1);
        x.plan(10, NONE);
        Due.bits("plan: of two equal splits", 2f + 2f * 2f, x.nodeOf(0, 3));
        nodes("plan: of two equal splits the first", x, node(LOOP, 10, 0, 1, 3), node(READ, 2, 0, 0, 1), node(READ, 8, 0, 0, 1));
    }

    private static void splitsFromTheLeast() {
        HistogramPlans x = new HistogramPlans();
        x.join(0, 3);
        x.join(3, 6);
        x.plan(7, NONE);
        nodes("plan: A from the least", x, node(HASH, 7, 0, 1, 5), node(READ, 1, 0, 0, 1), node(HASH, 6, 0, 2, 3),
            node(READ, 2, 0, 0, 1), node(READ, 4, 0, 0, 1));
        x.clear();
        x.join(3, 12);
        x.join(6, 12);
        x.plan(22, NONE);
        nodes("plan: A from the least that has a WAY", x, node(HASH, 22, 0, 1, 5), node(READ, 2, 0, 0, 1),
            node(HASH, 20, 0, 2, 3), node(READ, 4, 0, 0, 1), node(READ, 16, 0, 0, 1));
        x.clear();
        x.join(0, 12);
        x.join(0, 9);
        x.plan(25, NONE);
        nodes("plan: a split whose part has no WAY is none", x, node(HASH, 25, 0, 2, 5), node(READ, 8, 0, 0, 1),
            node(HASH, 17, 0, 1, 3), node(READ, 1, 0, 0, 1), node(READ, 16, 0, 0, 1));
    }

    private static void firstJoinBetween() {
        HistogramPlans x = new HistogramPlans();
        x.join(6, 9);
        x.join(1, 5);
        x.join(0, 3);
        x.join(1, 5);
        x.plan(3, NONE);
        Due.is("plan: the first JOIN between A and B", 2, x.nodeOf(0, 4));
        x.show(0, 0);
        Due.is("says: the first JOIN between A and B", 1, x.says(0, 2));
        x.join(4, 8);
        x.plan(12, NONE);
        Due.is("plan: of two other TABLES", 1, x.nodeOf(0, 4));
        x.plan(7, NONE);
        nodes("plan: by each split its own", x, node(HASH, 7, 0, 2, 5), node(READ, 1, 0, 0, 1), node(HASH, 6, 0, 5, 3),
            node(READ, 2, 0, 0, 1), node(READ, 4, 0, 0, 1));
    }

    /** Two TABLES of 16 LINES with VALUES all different at PLACES 6 and 12. */
    private static HistogramPlans sixteen(int storedTwo, int storedFour) {
        HistogramPlans x = new HistogramPlans();
        for (int i = 0; i < 16; i++) {
            x.line(2, i, 0, i);
            x.line(4, i, 0, i);
        }
        x.join(12, 6);
        x.put(2, 1, storedTwo);
        x.put(4, 1, storedFour);
        return x;
    }

    private static void hashLoopAndMerge() {
        HistogramPlans x = sixteen(NONE, NONE);
        x.plan(20, NONE);
        nodes("plan: HASH", x, node(HASH, 20, 0, 1, 3), node(READ, 4, 0, 0, 1), node(READ, 16, 0, 0, 1));
        Due.bits("plan: HASH, COST", (16f + 16f) + ((16f + 2f * 16f) + 16f), x.nodeOf(0, 3));
        x = sixteen(0, 0);
        x.plan(20, NONE);
        nodes("plan: MERGE", x, node(MERGE, 20, 0, 1, 3), node(READ, 4, 7, 0, 1), node(READ, 16, 13, 0, 1));
        Due.bits("plan: MERGE, COST", (16f + 16f) + ((16f + 16f) + 16f), x.nodeOf(0, 3));
        x.filter(12, 0, 2);
        x.plan(20, NONE);
        nodes("plan: LOOP", x, node(LOOP, 20, 0, 1, 3), node(READ, 16, 0, 0, 1), node(READ, 4, 0, 0, 1));
        Due.bits("plan: LOOP, COST", 16f + 2f * 16f, x.nodeOf(0, 3));
        Due.bits("plan: READ, COST is its LINES", 16f, x.nodeOf(1, 3));
    }

    /** THOUGHTS with rests, so that sums put together in another order would be other floats. */
    private static void costsStepByStep(int way) {
        int told = 0;
        int others = 0;
        for (int v = 1; v < 30; v++) {
            HistogramPlans x = new HistogramPlans();
            for (int i = 0; i < 16; i++) {
                x.line(0, 2 * i, 0, 0);
                x.line(1, 2 * i, 0, 0);
            }
            for (int t = 0; t < 2; t++) {
                x.put(t, 0, 3);
                x.put(t, 1, way == MERGE ? 0 : NONE);
            }
            for (int w = 1; w < 30; w++) {
                x.clear();
                x.join(0, 3);
                x.filter(0, 2, v);
                x.filter(3, 0, w);
                x.plan(3, NONE);
                if (x.nodeOf(0, 0) == way) {
                    int a = x.nodeOf(1, 1);
                    float one = Float.intBitsToFloat(x.thought(a));
                    float other = Float.intBitsToFloat(x.thought(3 - a));
                    float both = Float.intBitsToFloat(x.thought(3));
                    float cost = costOf(way, one, other, both);
                    Due.bits("plan: COST of WAY " + way + ", step by step", cost, x.nodeOf(0, 3));
                    told++;
                    others += cost == costInAnotherOrder(way, one, other, both) ? 0 : 1;
                }
            }
        }
        Due.is("plan: WAY " + way + " is told of", 1, told > 0 ? 1 : 0);
        Due.is("plan: WAY " + way + " in another order is another float", 1, others > 0 || way == LOOP ? 1 : 0);
    }

    private static float costOf(int way, float a, float b, float both) {
        switch (way) {
            case HASH:
                return (16f + 16f) + ((a + 2f * b) + both);
            case LOOP:
                return 16f + (a * 16f);
            default:
                return (16f + 16f) + ((a + b) + both);
        }
    }

    private static float costInAnotherOrder(int way, float a, float b, float both) {
        float second = way == HASH ? 2f * b : b;
        return (16f + 16f) + (a + (second + both));
    }

    private static void loopKeepsTheOrderOfA() {
        HistogramPlans x = sixteen(NONE, 1);
        x.filter(12, 0, 2);
        x.plan(20, 13);
        nodes("plan: LOOP by STORED of A", x, node(LOOP, 20, 14, 1, 3), node(READ, 16, 14, 0, 1), node(READ, 4, 0, 0, 1));
        x.plan(20, 14);
        nodes("plan: SORT ties with LOOP over SORT", x, node(LOOP, 20, 15, 1, 4), node(SORT, 16, 15, 0, 2),
            node(READ, 16, 0, 0, 1), node(READ, 4, 0, 0, 1));
        x.plan(20, 7);
        nodes("plan: an ORDER of B is sorted for", x, node(SORT, 20, 8, 0, 4), node(LOOP, 20, 0, 1, 3),
            node(READ, 16, 0, 0, 1), node(READ, 4, 0, 0, 1));
        Due.bits("plan: SORT, COST", (16f + 2f * 16f) + 2f * 2f, x.nodeOf(0, 3));
    }

    private static void mergeGivesThePlaceInA() {
        HistogramPlans x = sixteen(0, 0);
        x.plan(20, 6);
        nodes("plan: MERGE by the PLACE in A", x, node(MERGE, 20, 7, 1, 3), node(READ, 4, 7, 0, 1), node(READ, 16, 13, 0, 1));
        x.plan(20, 12);
        nodes("plan: MERGE by the PLACE in the other A", x, node(MERGE, 20, 13, 1, 3), node(READ, 16, 13, 0, 1),
            node(READ, 4, 7, 0, 1));
        x.show(0, 0);
        Due.is("says: MERGE, the PLACE in B", 6, x.says(0, 3));
        x.plan(20, 7);
        nodes("plan: another PLACE is sorted for", x, node(SORT, 20, 8, 0, 4), node(MERGE, 20, 0, 1, 3),
            node(READ, 4, 7, 0, 1), node(READ, 16, 13, 0, 1));
    }

    /** TABLE 1 is thought to have less than one LINE: to sort it costs nothing. */
    private static HistogramPlans thin() {
        HistogramPlans x = new HistogramPlans();
        for (int i = 0; i < 16; i++) {
            x.line(0, 50, i, 0);
            x.line(1, 50, i, i);
        }
        x.put(0, 1, 0);
        x.put(1, 0, 1);
        x.join(0, 3);
        x.filter(4, 1, 7);
        x.filter(5, 0, 15);
        return x;
    }

    private static void mergeOfSorts() {
        HistogramPlans x = thin();
        float less = 16f * (1f / 16f) * (15f / 16f);
        Due.bits("plan: less than one LINE", less, x.thought(2));
        Due.bits("plan: to sort it costs nothing", 0f, x.sorting(2));
        x.plan(3, 0);
        nodes("plan: MERGE with a SORT", x, node(MERGE, 3, 1, 1, 4), node(READ, 1, 1, 0, 1), node(SORT, 2, 4, 0, 2),
            node(READ, 2, 0, 0, 1));
        Due.bits("plan: MERGE with a SORT, COST", (16f + 16f) + ((16f + less) + 16f * less), x.nodeOf(0, 3));
        Due.bits("plan: SORT, COST", 16f, x.nodeOf(2, 3));
        x.put(0, 1, NONE);
        x.plan(3, 0);
        nodes("plan: SORT behind all", x, node(SORT, 3, 1, 0, 4), node(LOOP, 3, 0, 1, 3), node(READ, 2, 0, 0, 1),
            node(READ, 1, 0, 0, 1));
        Due.bits("plan: SORT behind all, COST", (16f + less * 16f) + 16f * less * 4f, x.nodeOf(0, 3));
    }

    /** A is 3 by PLACE 4 and B 28 by PLACE 7; A is 7 and B 24 would cost the same, but comes behind. */
    private static void nodesOfFiveTables() {
        HistogramPlans x = crowd(16);
        for (int t = 1; t < 5; t++) {
            x.join(3 * t - 2, 3 * t + 1);
        }
        Due.is("plan: five TABLES", 11, x.plan(31, NONE));
        nodes("plan: five TABLES", x, node(MERGE, 31, 0, 2, 11), node(LOOP, 3, 5, 1, 4), node(SORT, 2, 5, 0, 2),
            node(READ, 2, 0, 0, 1), node(READ, 1, 0, 0, 1), node(LOOP, 28, 8, 3, 6), node(SORT, 4, 8, 0, 2),
            node(READ, 4, 0, 0, 1), node(LOOP, 24, 0, 4, 3), node(READ, 8, 0, 0, 1), node(READ, 16, 0, 0, 1));
        float sorted = 16f + 16f * 5f;
        float b = sorted + 16f * (16f + 16f * 16f);
        Due.bits("plan: five TABLES, COST of B", b, x.nodeOf(5, 3));
        float all = ((sorted + 16f * 16f) + b) + ((256f + 4096f) + 1048576f);
        Due.bits("plan: five TABLES, COST", all, x.nodeOf(0, 3));
    }

    private static void planStaysAsItWas() {
        HistogramPlans x = rich();
        int[] was = new int[24];
        for (int i = 0; i < 24; i++) {
            was[i] = x.nodeOf(i / 6, i % 6);
        }
        x.plan(0, 0);
        x.plan(17, NONE);
        x.cost(31, 0);
        x.empty(0);
        x.empty(1);
        x.line(0, 9, 9, 9);
        x.clear();
        x.join(2, 5);
        x.put(1, 1, 0);
        x.put(0, 0, 8);
        x.restore();
        for (int i = 0; i < 24; i++) {
            Due.is("plan: stays as it was when it was made", was[i], x.nodeOf(i / 6, i % 6));
        }
        Due.is("plan: stays as it was when it was made", 4, x.status(3));
        x.plan(1, NONE);
        Due.is("plan: made anew", 1, x.status(3));
        Due.is("plan: none is left of the one ahead", -5, x.nodeOf(1, 0));
    }

    private static void nodeOfEdges() {
        keeps("nodeOf: the first", SORT, Bounds::rich, y -> y.nodeOf(0, 0));
        keeps("nodeOf: the first, the last of it", 4, Bounds::rich, y -> y.nodeOf(0, 5));
        keeps("nodeOf: the last", READ, Bounds::rich, y -> y.nodeOf(3, 0));
        keeps("nodeOf: the last, the last of it", 1, Bounds::rich, y -> y.nodeOf(3, 5));
        for (int i : new int[] {-1, 4, 5, 18, LEAST, MOST}) {
            refuses("nodeOf: no such one " + i, -5, Bounds::rich, y -> y.nodeOf(i, 0));
        }
        for (int what : new int[] {-1, 6, LEAST, MOST}) {
            refuses("nodeOf: another what " + what, -5, Bounds::rich, y -> y.nodeOf(0, what));
            refuses("nodeOf: neither", -5, Bounds::rich, y -> y.nodeOf(4, what));
        }
        refuses("nodeOf: no PLAN yet", -5, Bounds::blank, y -> y.nodeOf(0, 0));
    }

    // ---- promise 33

    /** SHELF 6 of a rich object tells WAYS; THE PLAN has SORT, LOOP, READ, READ. */
    private static void judged(String what, int want, int n, long... ways) {
        keeps("judge: " + what, want, () -> {
            HistogramPlans x = rich();
            told(x, 6, 2, ways);
            return x;
        }, y -> y.judge(6, n));
    }

    private static void judgeByNodes() {
        judged("all is so", NONE, 4, SORT, LOOP, READ, READ);
        judged("all is so, more stand there", NONE, 4, SORT, LOOP, READ, READ, 9, 9);
        judged("the first isn't so", 0, 4, LOOP, LOOP, READ, READ);
        judged("the second isn't so", 1, 4, SORT, HASH, READ, READ);
        judged("the last isn't so", 3, 4, SORT, LOOP, READ, SORT);
        judged("two aren't so", 1, 4, SORT, 5, -1, READ);
        judged("the last isn't so, but isn't told", 3, 3, SORT, LOOP, READ, SORT);
        judged("none is told", 0, 0, SORT, LOOP, READ, READ);
        judged("none is told of none", 0, 0);
        judged("one is told", 1, 1, SORT);
        judged("three are told", 3, 3, SORT, LOOP, READ);
        judged("three are told, one isn't so", 2, 3, SORT, LOOP, LOOP);
        judged("one too many", 4, 5, SORT, LOOP, READ, READ, READ);
        judged("two too many", 4, 6, SORT, LOOP, READ, READ, READ, READ);
        judged("too many, one isn't so", 0, 5, READ, LOOP, READ, READ, READ);
        HistogramPlans x = rich();
        x.plan(1, NONE);
        told(x, 6, 0, READ, READ);
        Due.is("judge: a PLAN of one", NONE, x.judge(6, 1));
        Due.is("judge: a PLAN of one, told none", 0, x.judge(6, 0));
        Due.is("judge: a PLAN of one, told two", 1, x.judge(6, 2));
    }

    private static void judgeSizes() {
        long[] forty = new long[40];
        forty[0] = SORT;
        forty[1] = LOOP;
        judged("39 of 40", 4, 39, forty);
        judged("40 of 40", 4, 40, forty);
        HistogramPlans x = rich();
        told(x, 6, 0, forty);
        Due.is("judge: 41 of 40", -15, x.judge(6, 41));
        x.row(6, 0, 41);
        Due.is("judge: 41 of 41", -16, x.judge(6, 41));
        Due.is("judge: 40 of 41", 0, x.judge(6, 40));
        x.row(6, 0, 160);
        Due.is("judge: 160 of 160", -16, x.judge(6, 160));
        Due.is("judge: 161 of 160", -15, x.judge(6, 161));
        x.row(6, 0, 39);
        Due.is("judge: 40 of 39", -15, x.judge(6, 40));
        Due.is("judge: 39 of 39", 0, x.judge(6, 39));
    }

    private static void judgeAsInts() {
        for (int sort = 0; sort < 4; sort++) {
            int of = sort;
            keeps("judge: a ROW of SORT " + sort, NONE, () -> {
                HistogramPlans x = rich();
                told(x, 6, of, SORT, LOOP, READ, READ);
                return x;
            }, y -> y.judge(6, 4));
        }
        keeps("judge: of longs the lowest 32 bits", NONE, () -> {
            HistogramPlans x = rich();
            told(x, 6, 3, SORT + (1L << 32), LOOP - (1L << 32), READ | 1L << 63, READ + (7L << 40));
            return x;
        }, y -> y.judge(6, 4));
        judged("a 9th bit counts", 0, 4, SORT + 256, LOOP, READ, READ);
        judged("a 32nd bit counts", 0, 4, SORT | 1L << 31, LOOP, READ, READ);
    }

    private static HistogramPlans planless() {
        HistogramPlans x = new HistogramPlans();
        x.row(0, 0, 0);
        x.row(1, 0, 160);
        return x;
    }

    private static void judgeRefusals() {
        for (int s : NO_SHELVES) {
            refuses("judge: no SHELF " + s, -11, Bounds::rich, y -> y.judge(s, 1));
        }
        refuses("judge: a NODE", -12, Bounds::rich, y -> y.judge(4, 1));
        refuses("judge: NOTHING", -13, Bounds::rich, y -> y.judge(5, 1));
        for (int n : new int[] {-1, -2, LEAST}) {
            refuses("judge: " + n, -14, Bounds::rich, y -> y.judge(6, n));
        }
        refuses("judge: 5 of 4 elements", -15, Bounds::rich, y -> y.judge(0, 5));
        refuses("judge: 1 of no elements", -15, Bounds::rich, y -> y.judge(7, 1));
        refuses("judge: no PLAN yet", -15, PlanBoundsTest::planless, y -> y.judge(1, 1));
        refuses("judge: no PLAN yet, none is told", -15, PlanBoundsTest::planless, y -> y.judge(0, 0));
        for (int n : new int[] {41, 42, 160}) {
            refuses("judge: above 40, " + n, -16, Bounds::rich, y -> y.judge(6, n));
        }
        HistogramPlans x = rich();
        for (int s = 0; s < 8; s++) {
            told(x, s, 1, SORT);
            Due.is("judge: SHELF " + s, 1, x.judge(s, 1));
        }
    }

    private static void judgeFirstRefusalThatFits() {
        refuses("judge: SHELF ahead of below", -11, Bounds::rich, y -> y.judge(8, -1));
        refuses("judge: SHELF ahead of no PLAN", -11, PlanBoundsTest::planless, y -> y.judge(-1, 1));
        refuses("judge: SHELF ahead of above 40", -11, Bounds::rich, y -> y.judge(8, 41));
        refuses("judge: a NODE ahead of below", -12, Bounds::rich, y -> y.judge(4, -1));
        refuses("judge: a NODE ahead of fewer elements", -12, Bounds::rich, y -> y.judge(4, MOST));
        refuses("judge: a NODE ahead of above 40", -12, Bounds::rich, y -> y.judge(4, 41));
        refuses("judge: NOTHING ahead of below", -13, Bounds::rich, y -> y.judge(5, -1));
        refuses("judge: NOTHING ahead of no PLAN", -13, PlanBoundsTest::planless, y -> y.judge(5, 0));
        refuses("judge: NOTHING ahead of above 40", -13, Bounds::rich, y -> y.judge(5, 41));
        refuses("judge: below ahead of no PLAN", -14, PlanBoundsTest::planless, y -> y.judge(1, -1));
        refuses("judge: fewer elements ahead of above 40", -15, Bounds::rich, y -> y.judge(0, 41));
        refuses("judge: fewer elements ahead of above 40", -15, Bounds::rich, y -> y.judge(6, MOST));
        refuses("judge: no PLAN ahead of above 40", -15, PlanBoundsTest::planless, y -> y.judge(1, 41));
    }
}
