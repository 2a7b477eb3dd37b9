import java.util.Arrays;

/**
 * Plans how small tables are joined, by what histograms let it think of them.
 *
 * Everything a call needs is made once, with the object: the calls themselves make nothing.
 */
public final class HistogramPlans {
    public static final int NONE = -1;

    private static final int TABLES = 5;
    private static final int COLUMNS = 3;
    private static final int PLACES = TABLES * COLUMNS;
    private static final int LINES = 16;
    private static final int VALUES = 100;
    private static final int MOST_BUCKETS = 8;
    private static final int FIRST_BUCKETS = 4;
    private static final int SIGNS = 3;
    private static final int LESS = 0;
    private static final int EQUAL = 1;
    private static final int MOST_FILTERS = 8;
    private static final int MOST_JOINS = 8;
    private static final int SETS = 1 << TABLES;
    /** NONE is an ORDER too: the first of them. */
    private static final int ORDERS = PLACES + 1;
    private static final int READ = 0;
    private static final int HASH = 1;
    private static final int LOOP = 2;
    private static final int MERGE = 3;
    private static final int SORT = 4;
    /** A tree over 5 TABLES has 9 sets, and each may be sorted for: 18. */
    private static final int MOST_NODES = 18;
    private static final int MOST_ROWS = 100000;
    private static final int SHELVES = 8;
    private static final int SORTS = 4;
    private static final int ELEMENTS = 160;
    private static final int MOST_TOLD = 40;
    private static final int MOST_DRAWN = 40;
    private static final int DRAWN_VALUES = 20;

    private static final int NOBODY = 1;
    private static final int OTHER = 2;
    private static final int NOTHING = 3;
    private static final int BELOW = 4;
    private static final int BEYOND = 5;
    private static final int WRONG = 6;
    private static final int ROOM = 7;

    private final World world = new World();
    private final World imaged = new World();
    private boolean hasImage = false;
    private final Thoughts thoughts = new Thoughts(world);
    private final Planner planner = new Planner(world, thoughts);
    private final Matches matches = new Matches(world);
    private final TextReader reader = new TextReader(world);
    private final Shelf[] shelves = new Shelf[SHELVES];
    private final Node[] nodes = new Node[MOST_NODES];
    private int planned = 0;
    private int latestFault = NONE;
    private final int[] refusals = new int[ROOM + 1];

    public HistogramPlans() {
        for (int s = 0; s < SHELVES; s++) {
            shelves[s] = new Shelf();
        }
        for (int i = 0; i < MOST_NODES; i++) {
            nodes[i] = new Node();
        }
    }

    // ---- shelves

    public int row(int s, int sort, int n) {
        if (!isBelow(s, SHELVES)) {
            return refuse(NOBODY);
        }
        if (n < 0) {
            return refuse(BELOW);
        }
        if (!isBelow(sort, SORTS)) {
            return refuse(WRONG);
        }
        if (n > ELEMENTS) {
            return refuse(ROOM);
        }
        shelves[s].becomeRow(sort, n);
        return 1;
    }

    public int set(int s, int i, long v) {
        int why = whyNoRow(s);
        if (why != 0) {
            return refuse(why);
        }
        if (!isBelow(i, shelves[s].length)) {
            return refuse(BEYOND);
        }
        shelves[s].keep(i, v);
        return 1;
    }

    public int copy(int p, int q, int i, int j, int n) {
        if (!isBelow(p, SHELVES) || !isBelow(q, SHELVES)) {
            return refuse(NOBODY);
        }
        Shelf from = shelves[p];
        Shelf to = shelves[q];
        if (from.kind == Shelf.NODE || to.kind == Shelf.NODE || areRowsOfTwoSorts(from, to)) {
            return refuse(OTHER);
        }
        if (from.kind == Shelf.EMPTY || to.kind == Shelf.EMPTY) {
            return refuse(NOTHING);
        }
        if (n < 0) {
            return refuse(BELOW);
        }
        if (!hasElements(from, i, n) || !hasElements(to, j, n)) {
            return refuse(BEYOND);
        }
        System.arraycopy(from.elements, i, to.elements, j, n);
        return 1;
    }

    public long element(int s, int i) {
        if (!isBelow(s, SHELVES) || shelves[s].kind != Shelf.ROW || !isBelow(i, shelves[s].length)) {
            return 0;
        }
        return shelves[s].elements[i];
    }

    public int show(int s, int node) {
        if (!isBelow(s, SHELVES) || (node != NONE && !isNode(node))) {
            return refuse(NOBODY);
        }
        if (node == NONE) {
            shelves[s].kind = Shelf.EMPTY;
            return 0;
        }
        shelves[s].becomeNode(nodes[node]);
        return 1;
    }

    public int holds(int s) {
        if (!isBelow(s, SHELVES)) {
            return NONE;
        }
        return shelves[s].told();
    }

    public int says(int s, int as) {
        if (!isBelow(s, SHELVES) || !isBelow(as, Node.SPEECHES)) {
            return refuse(NOBODY);
        }
        Shelf shelf = shelves[s];
        if (shelf.kind == Shelf.ROW) {
            return refuse(OTHER);
        }
        if (shelf.kind == Shelf.EMPTY) {
            return refuse(NOTHING);
        }
        if (!shelf.node.speaks(as)) {
            return refuse(OTHER);
        }
        return shelf.node.speech(as);
    }

    // ---- tables

    public int line(int t, int a, int b, int c) {
        if (!isBelow(t, TABLES)) {
            return refuse(NOBODY);
        }
        if (!isBelow(a, VALUES) || !isBelow(b, VALUES) || !isBelow(c, VALUES)) {
            return refuse(WRONG);
        }
        if (world.tables[t].lines >= LINES) {
            return refuse(ROOM);
        }
        world.tables[t].add(a, b, c);
        return world.tables[t].lines - 1;
    }

    public int read(int s) {
        int why = whyNoRow(s);
        if (why != 0) {
            return refuse(why);
        }
        latestFault = reader.faultIn(shelves[s]);
        if (latestFault != NONE) {
            return refuse(WRONG);
        }
        reader.bringLines();
        return reader.items;
    }

    public int fault() {
        return latestFault;
    }

    public int empty(int t) {
        if (!isBelow(t, TABLES)) {
            return refuse(NOBODY);
        }
        int had = world.tables[t].lines;
        world.tables[t].lines = 0;
        return had;
    }

    public int put(int t, int what, int v) {
        if (!isBelow(t, TABLES)) {
            return refuseTenLower(NOBODY);
        }
        if (!isBelow(what, 2)) {
            return refuseTenLower(BEYOND);
        }
        Table table = world.tables[t];
        boolean isOfBuckets = what == 0;
        boolean may = isOfBuckets ? v >= 1 && v <= MOST_BUCKETS : v == NONE || isBelow(v, COLUMNS);
        if (!may) {
            return refuseTenLower(WRONG);
        }
        int was = isOfBuckets ? table.buckets : table.stored;
        if (isOfBuckets) {
            table.buckets = v;
        } else {
            table.stored = v;
        }
        return was;
    }

    public int tableOf(int t, int what) {
        if (!isBelow(t, TABLES)) {
            return refuse(NOBODY);
        }
        switch (what) {
            case 0:
                return world.tables[t].lines;
            case 1:
                return world.tables[t].buckets;
            case 2:
                return world.tables[t].stored + 1;
            default:
                return refuse(BEYOND);
        }
    }

    public int lineOf(int t, int i, int column) {
        if (!isBelow(t, TABLES)) {
            return refuse(NOBODY);
        }
        if (!isBelow(i, world.tables[t].lines) || !isBelow(column, COLUMNS)) {
            return refuse(BEYOND);
        }
        return world.tables[t].valueAt(i, column);
    }

    public int bucket(int place, int k, int what) {
        if (!isBelow(place, PLACES)) {
            return refuse(NOBODY);
        }
        Histogram histogram = thoughts.histogramOf(place);
        if (!isBelow(k, histogram.buckets)) {
            return refuse(BEYOND);
        }
        switch (what) {
            case 0:
                return histogram.low[k];
            case 1:
                return histogram.high[k];
            case 2:
                return histogram.size[k];
            case 3:
                return histogram.distinct[k];
            default:
                return refuse(BEYOND);
        }
    }

    public int different(int place) {
        if (!isBelow(place, PLACES)) {
            return refuse(NOBODY);
        }
        return thoughts.histogramOf(place).differentValues();
    }

    // ---- shares, filters and joins

    public int share(int place, int sign, int v) {
        if (!isBelow(place, PLACES)) {
            return refuseTenLower(NOBODY);
        }
        if (!isBelow(sign, SIGNS) || !isBelow(v, VALUES)) {
            return refuseTenLower(WRONG);
        }
        return bitsOf(thoughts.histogramOf(place).shareOf(sign, v));
    }

    public int filter(int place, int sign, int v) {
        if (!isBelow(place, PLACES)) {
            return refuse(NOBODY);
        }
        if (!isBelow(sign, SIGNS) || !isBelow(v, VALUES)) {
            return refuse(WRONG);
        }
        if (world.filters >= MOST_FILTERS) {
            return refuse(ROOM);
        }
        world.addFilter(place, sign, v);
        return world.filters - 1;
    }

    public int join(int place, int other) {
        if (!isBelow(place, PLACES) || !isBelow(other, PLACES)) {
            return refuse(NOBODY);
        }
        if (place / COLUMNS == other / COLUMNS) {
            return refuse(WRONG);
        }
        if (world.joins >= MOST_JOINS) {
            return refuse(ROOM);
        }
        world.addJoin(Math.min(place, other), Math.max(place, other));
        return world.joins - 1;
    }

    public int clear() {
        int had = world.filters + world.joins;
        world.filters = 0;
        world.joins = 0;
        return had;
    }

    public int filterOf(int f, int what) {
        if (!isBelow(f, world.filters)) {
            return refuse(BEYOND);
        }
        switch (what) {
            case 0:
                return world.filterPlace[f];
            case 1:
                return world.filterSign[f];
            case 2:
                return world.filterValue[f];
            default:
                return refuse(BEYOND);
        }
    }

    public int joinOf(int j, int what) {
        if (!isBelow(j, world.joins) || !isBelow(what, 2)) {
            return refuse(BEYOND);
        }
        return what == 0 ? world.joinFirst[j] : world.joinSecond[j];
    }

    public int joinShare(int j) {
        if (!isBelow(j, world.joins)) {
            return refuse(NOBODY);
        }
        return bitsOf(thoughts.shareOfJoin(j));
    }

    public int thought(int set) {
        if (!isSet(set)) {
            return refuse(WRONG);
        }
        thoughts.think();
        return bitsOf(thoughts.thoughtOf(set));
    }

    // ---- plans

    public int sorting(int set) {
        if (!isSet(set)) {
            return refuse(WRONG);
        }
        thoughts.think();
        return bitsOf(costOfSorting(thoughts.thoughtOf(set)));
    }

    public int cost(int set, int order) {
        if (!isSet(set) || !isOrder(order)) {
            return refuseTenLower(WRONG);
        }
        thoughts.think();
        planner.search(set);
        int cell = cellOf(set, order);
        return planner.way[cell] == NONE ? NONE : bitsOf(planner.best[cell]);
    }

    public int plan(int set, int order) {
        if (!isSet(set) || !isOrder(order)) {
            return refuse(WRONG);
        }
        thoughts.think();
        planner.search(set);
        int cell = cellOf(set, order);
        if (planner.way[cell] == NONE) {
            return refuse(BEYOND);
        }
        planned = planner.layOut(cell, nodes);
        return planned;
    }

    public int nodeOf(int i, int what) {
        if (!isNode(i)) {
            return refuse(BEYOND);
        }
        switch (what) {
            case 0:
                return nodes[i].way;
            case 1:
                return nodes[i].tables;
            case 2:
                return nodes[i].order + 1;
            case 3:
                return nodes[i].costBits;
            case 4:
                return nodes[i].pairing + 1;
            case 5:
                return nodes[i].size;
            default:
                return refuse(BEYOND);
        }
    }

    // ---- what really comes

    public int really(int set) {
        if (!isSet(set)) {
            return refuse(WRONG);
        }
        int rows = matches.rowsOf(set, leastOf(set));
        return rows > MOST_ROWS ? refuse(BEYOND) : rows;
    }

    public long sum(int set, int place) {
        if (!isBelow(place, PLACES)) {
            return refuse(NOBODY);
        }
        if (!isSet(set)) {
            return refuse(WRONG);
        }
        boolean within = isWithin(set, place);
        if (matches.rowsOf(set, within ? place / COLUMNS : leastOf(set)) > MOST_ROWS) {
            return refuse(BEYOND);
        }
        return within ? matches.sumOf(place) : refuse(WRONG);
    }

    public int wrongBy(int set) {
        if (!isSet(set)) {
            return refuse(WRONG);
        }
        int rows = matches.rowsOf(set, leastOf(set));
        if (rows > MOST_ROWS) {
            return refuse(BEYOND);
        }
        thoughts.think();
        return bitsOf(errorOf(thoughts.thoughtOf(set), (float) rows));
    }

    public int judge(int s, int n) {
        int why = whyNoRow(s);
        if (why != 0) {
            return refuseTenLower(why);
        }
        if (n < 0) {
            return refuseTenLower(BELOW);
        }
        if (n > shelves[s].length || planned == 0) {
            return refuseTenLower(BEYOND);
        }
        if (n > MOST_TOLD) {
            return refuseTenLower(WRONG);
        }
        for (int i = 0; i < n; i++) {
            if (!isNode(i) || shelves[s].intAt(i) != nodes[i].way) {
                return i;
            }
        }
        return n < planned ? n : NONE;
    }

    // ---- draws, the image, the status

    public int drawn(int n) {
        if (n < 1 || n > MOST_DRAWN) {
            return refuse(WRONG);
        }
        int came = 0;
        for (int i = 0; i < n; i++) {
            if (world.drawLine()) {
                came++;
            }
        }
        return came;
    }

    public int seed(int v) {
        int was = world.drawSeed;
        world.drawSeed = v;
        return was;
    }

    public int image() {
        imaged.become(world);
        hasImage = true;
        return world.allLines();
    }

    public int restore() {
        if (!hasImage) {
            return refuse(WRONG);
        }
        world.become(imaged);
        return world.allLines();
    }

    public int status(int what) {
        if (what > 10 && what <= 10 + ROOM) {
            return refusals[what - 10];
        }
        switch (what) {
            case 0:
                return world.allLines();
            case 1:
                return world.filters;
            case 2:
                return world.joins;
            case 3:
                return planned;
            case 4:
                return world.drawSeed;
            default:
                return NONE;
        }
    }

    // ---- what the calls share

    private int refuse(int why) {
        refusals[why]++;
        return -why;
    }

    /** For calls whose answers may be NONE, or bits: a refusal there must look like neither. */
    private int refuseTenLower(int why) {
        return refuse(why) - 10;
    }

    /** What keeps SHELF s from being read as a ROW: 0, if nothing does. */
    private int whyNoRow(int s) {
        if (!isBelow(s, SHELVES)) {
            return NOBODY;
        }
        if (shelves[s].kind == Shelf.NODE) {
            return OTHER;
        }
        return shelves[s].kind == Shelf.EMPTY ? NOTHING : 0;
    }

    private boolean isNode(int i) {
        return i >= 0 && i < planned && i < MOST_NODES;
    }

    private static boolean areRowsOfTwoSorts(Shelf one, Shelf two) {
        return one.kind == Shelf.ROW && two.kind == Shelf.ROW && one.sort != two.sort;
    }

    /** Subtracts instead of adding: i + n might wrap around. */
    private static boolean hasElements(Shelf shelf, int i, int n) {
        return i >= 0 && i <= shelf.length && n <= shelf.length - i;
    }

    private static boolean isBelow(int number, int end) {
        return number >= 0 && number < end;
    }

    private static boolean isSet(int set) {
        return set > 0 && set < SETS;
    }

    private static boolean isOrder(int order) {
        return order == NONE || isBelow(order, PLACES);
    }

    private static boolean isWithin(int set, int place) {
        return (set >> (place / COLUMNS) & 1) == 1;
    }

    /** The least TABLE of a set. */
    private static int leastOf(int set) {
        int table = 0;
        while (table < TABLES - 1 && (set >> table & 1) == 0) {
            table++;
        }
        return table;
    }

    private static int cellOf(int set, int order) {
        return set * ORDERS + order + 1;
    }

    private static float costOfSorting(float thought) {
        int whole = (int) thought;
        int digits = 0;
        while (digits < 31 && (whole >> digits) > 0) {
            digits++;
        }
        return thought * (float) digits;
    }

    private static float errorOf(float thought, float rows) {
        if (thought == 0f && rows == 0f) {
            return 1f;
        }
        if (thought == 0f || rows == 0f) {
            return 0f;
        }
        float over = thought / rows;
        float under = rows / thought;
        return over >= under ? over : under;
    }

    /**
     * The bits of a float that is not below 0, found by arithmetic: the library's own call is out of bounds here.
     * As a double, every such float but the infinite one is halved or doubled without loss.
     */
    private static int bitsOf(float number) {
        double rest = (double) number;
        int power = 0;
        while (rest >= 2.0 && power < 128) {
            rest = rest / 2.0;
            power++;
        }
        if (power == 128) {
            return 255 << 23;
        }
        while (rest < 1.0 && power > -126) {
            rest = rest * 2.0;
            power--;
        }
        int digits = (int) (rest * 8388608.0);
        // below 1 there is no leading digit to leave out, and the written power stays 0
        return rest < 1.0 ? digits : (power + 127 << 23) + (digits - 8388608);
    }

    // ---- the classes inside

    /** The LINES of one TABLE, and how it is kept. */
    static final class Table {
        final int[] values = new int[LINES * COLUMNS];
        int lines = 0;
        int buckets = FIRST_BUCKETS;
        int stored = NONE;

        int valueAt(int i, int column) {
            return values[i * COLUMNS + column];
        }

        void add(int a, int b, int c) {
            int at = lines * COLUMNS;
            if (lines < LINES) {
                values[at] = a;
                values[at + 1] = b;
                values[at + 2] = c;
                lines++;
            }
        }

        void become(Table other) {
            System.arraycopy(other.values, 0, values, 0, LINES * COLUMNS);
            lines = other.lines;
            buckets = other.buckets;
            stored = other.stored;
        }
    }

    /** All that THE IMAGE keeps. */
    static final class World {
        final Table[] tables = new Table[TABLES];
        final int[] filterPlace = new int[MOST_FILTERS];
        final int[] filterSign = new int[MOST_FILTERS];
        final int[] filterValue = new int[MOST_FILTERS];
        int filters = 0;
        final int[] joinFirst = new int[MOST_JOINS];
        final int[] joinSecond = new int[MOST_JOINS];
        int joins = 0;
        int drawSeed = 1;

        World() {
            for (int t = 0; t < TABLES; t++) {
                tables[t] = new Table();
            }
        }

        void addFilter(int place, int sign, int v) {
            if (filters < MOST_FILTERS) {
                filterPlace[filters] = place;
                filterSign[filters] = sign;
                filterValue[filters] = v;
                filters++;
            }
        }

        void addJoin(int first, int second) {
            if (joins < MOST_JOINS) {
                joinFirst[joins] = first;
                joinSecond[joins] = second;
                joins++;
            }
        }

        boolean hasWithin(int set, int j) {
            return isWithin(set, joinFirst[j]) && isWithin(set, joinSecond[j]);
        }

        /** The PLACE of a JOIN that lies in a set which has just one of the two. */
        int placeIn(int set, int j) {
            return isWithin(set, joinFirst[j]) ? joinFirst[j] : joinSecond[j];
        }

        int allLines() {
            int lines = 0;
            for (int t = 0; t < TABLES; t++) {
                lines += tables[t].lines;
            }
            return lines;
        }

        private int drawBelow(int n) {
            drawSeed = drawSeed * 1103515245 + 12345;
            return (drawSeed >>> 16) % n;
        }

        /** Draws all of a LINE before it looks for room: the SEED goes on all the same. */
        boolean drawLine() {
            Table table = tables[drawBelow(TABLES)];
            int a = drawBelow(DRAWN_VALUES);
            int b = drawBelow(DRAWN_VALUES);
            int c = drawBelow(DRAWN_VALUES);
            boolean hasRoom = table.lines < LINES;
            table.add(a, b, c);
            return hasRoom;
        }

        void become(World other) {
            for (int t = 0; t < TABLES; t++) {
                tables[t].become(other.tables[t]);
            }
            System.arraycopy(other.filterPlace, 0, filterPlace, 0, MOST_FILTERS);
            System.arraycopy(other.filterSign, 0, filterSign, 0, MOST_FILTERS);
            System.arraycopy(other.filterValue, 0, filterValue, 0, MOST_FILTERS);
            filters = other.filters;
            System.arraycopy(other.joinFirst, 0, joinFirst, 0, MOST_JOINS);
            System.arraycopy(other.joinSecond, 0, joinSecond, 0, MOST_JOINS);
            joins = other.joins;
            drawSeed = other.drawSeed;
        }
    }

    /** The BUCKETS of one COLUMN of a TABLE: one object is filled again for each. */
    static final class Histogram {
        private final int[] sorted = new int[LINES];
        private int n = 0;
        final int[] low = new int[MOST_BUCKETS];
        final int[] high = new int[MOST_BUCKETS];
        final int[] size = new int[MOST_BUCKETS];
        final int[] distinct = new int[MOST_BUCKETS];
        int buckets = 0;

        void fill(Table table, int column) {
            n = table.lines;
            for (int i = 0; i < n; i++) {
                insert(table.valueAt(i, column), i);
            }
            buckets = 0;
            for (int k = 0; k < table.buckets; k++) {
                addBucket(k * n / table.buckets, (k + 1) * n / table.buckets);
            }
        }

        private void insert(int v, int end) {
            int at = end;
            while (at > 0 && sorted[at - 1] > v) {
                sorted[at] = sorted[at - 1];
                at--;
            }
            sorted[at] = v;
        }

        private void addBucket(int from, int to) {
            if (from < to && buckets < MOST_BUCKETS) {
                low[buckets] = sorted[from];
                high[buckets] = sorted[to - 1];
                size[buckets] = to - from;
                distinct[buckets] = differentIn(from, to);
                buckets++;
            }
        }

        private int differentIn(int from, int to) {
            int different = 0;
            for (int i = from; i < to; i++) {
                if (i == from || sorted[i] != sorted[i - 1]) {
                    different++;
                }
            }
            return different;
        }

        int differentValues() {
            return differentIn(0, n);
        }

        float shareOf(int sign, int v) {
            if (n == 0) {
                return 0f;
            }
            if (sign == LESS) {
                return shareLess(v);
            }
            if (sign == EQUAL) {
                return shareEqual(v);
            }
            float rest = 1f - (shareLess(v) + shareEqual(v));
            return rest < 0f ? 0f : rest;
        }

        private float shareLess(int v) {
            float s = 0f;
            for (int k = 0; k < buckets; k++) {
                if (v > high[k]) {
                    s = s + (float) size[k];
                } else if (v > low[k]) {
                    s = s + (float) size[k] * ((float) (v - low[k]) / (float) (high[k] - low[k] + 1));
                }
            }
            return s / (float) n;
        }

        private float shareEqual(int v) {
            float s = 0f;
            for (int k = 0; k < buckets; k++) {
                if (v >= low[k] && v <= high[k]) {
                    s = s + (float) size[k] / (float) distinct[k];
                }
            }
            return s / (float) n;
        }
    }

    /** How many rows are thought to come. */
    static final class Thoughts {
        private final World world;
        private final Histogram histogram = new Histogram();
        private final float[] ofTable = new float[TABLES];
        private final float[] ofJoin = new float[MOST_JOINS];

        Thoughts(World world) {
            this.world = world;
        }

        Histogram histogramOf(int place) {
            histogram.fill(world.tables[place / COLUMNS], place % COLUMNS);
            return histogram;
        }

        float shareOfJoin(int j) {
            int one = histogramOf(world.joinFirst[j]).differentValues();
            int two = histogramOf(world.joinSecond[j]).differentValues();
            int most = Math.max(one, two);
            return most == 0 ? 0f : 1f / (float) most;
        }

        /** Goes ahead of thoughtOf: many sets are asked for, and all rest on the same few numbers. */
        void think() {
            for (int t = 0; t < TABLES; t++) {
                ofTable[t] = thoughtOfTable(t);
            }
            for (int j = 0; j < world.joins; j++) {
                ofJoin[j] = shareOfJoin(j);
            }
        }

        private float thoughtOfTable(int t) {
            float thought = (float) world.tables[t].lines;
            for (int f = 0; f < world.filters; f++) {
                int place = world.filterPlace[f];
                if (place / COLUMNS == t) {
                    thought = thought * histogramOf(place).shareOf(world.filterSign[f], world.filterValue[f]);
                }
            }
            return thought;
        }

        float thoughtOf(int set) {
            float thought = 1f;
            for (int t = 0; t < TABLES; t++) {
                if ((set >> t & 1) == 1) {
                    thought = thought * ofTable[t];
                }
            }
            for (int j = 0; j < world.joins; j++) {
                if (world.hasWithin(set, j)) {
                    thought = thought * ofJoin[j];
                }
            }
            return thought;
        }
    }

    /** One NODE of a PLAN, as it was when the PLAN was made. */
    static final class Node {
        /** What a NODE may be asked to say: any, a READ, a PAIR, a MERGE, a SORT. */
        static final int SPEECHES = 5;
        int way = READ;
        int tables = 0;
        int order = NONE;
        int costBits = 0;
        int pairing = NONE;
        int placeInB = NONE;
        int size = 1;

        boolean speaks(int as) {
            switch (as) {
                case 0:
                    return true;
                case 1:
                    return way == READ;
                case 2:
                    return way == HASH || way == LOOP || way == MERGE;
                case 3:
                    return way == MERGE;
                default:
                    return way == SORT;
            }
        }

        int speech(int as) {
            switch (as) {
                case 0:
                    return costBits;
                case 1:
                    return leastOf(tables);
                case 2:
                    return pairing;
                case 3:
                    return placeInB;
                default:
                    return order;
            }
        }

        void become(Node other) {
            way = other.way;
            tables = other.tables;
            order = other.order;
            costBits = other.costBits;
            pairing = other.pairing;
            placeInB = other.placeInB;
            size = other.size;
        }
    }

    /**
     * Finds the BEST of each set and ORDER: a CELL. Parts of a set are lesser numbers than the set,
     * so going up by numbers finds the BEST of the parts first.
     */
    static final class Planner {
        private final World world;
        private final Thoughts thoughts;
        private final float[] thought = new float[SETS];
        final int[] way = new int[SETS * ORDERS];
        final float[] best = new float[SETS * ORDERS];
        private final int[] leftCell = new int[SETS * ORDERS];
        private final int[] rightCell = new int[SETS * ORDERS];
        private final int[] pairing = new int[SETS * ORDERS];
        private final int[] size = new int[SETS * ORDERS];
        private final int[] laid = new int[MOST_NODES];

        Planner(World world, Thoughts thoughts) {
            this.world = world;
            this.thoughts = thoughts;
        }

        /** Goes behind think(). */
        void search(int whole) {
            for (int set = 1; set <= whole; set++) {
                if ((set & whole) == set) {
                    searchSet(set);
                }
            }
        }

        private void searchSet(int set) {
            thought[set] = thoughts.thoughtOf(set);
            for (int order = NONE; order < PLACES; order++) {
                way[cellOf(set, order)] = NONE;
            }
            if ((set & set - 1) == 0) {
                offerRead(set);
            } else {
                offerPairs(set);
            }
            offerSorts(set);
        }

        private void offerRead(int set) {
            int t = leastOf(set);
            Table table = world.tables[t];
            float cost = (float) table.lines;
            offer(cellOf(set, NONE), READ, cost, NONE, NONE, NONE);
            if (table.stored != NONE) {
                offer(cellOf(set, t * COLUMNS + table.stored), READ, cost, NONE, NONE, NONE);
            }
        }

        private void offerPairs(int set) {
            for (int a = 1; a < set; a++) {
                if ((a & set) == a) {
                    int j = firstJoinBetween(a, set ^ a);
                    if (j != NONE) {
                        offerPair(a, set ^ a, j);
                    }
                }
            }
        }

        private int firstJoinBetween(int a, int b) {
            for (int j = 0; j < world.joins; j++) {
                int first = world.joinFirst[j];
                int second = world.joinSecond[j];
                if ((isWithin(a, first) && isWithin(b, second)) || (isWithin(b, first) && isWithin(a, second))) {
                    return j;
                }
            }
            return NONE;
        }

        /** A set that has a WAY for any ORDER has one for each of its PLACES, by SORT: so any is all that is tested. */
        private void offerPair(int a, int b, int j) {
            int anyA = cellOf(a, NONE);
            int anyB = cellOf(b, NONE);
            if (way[anyA] == NONE || way[anyB] == NONE) {
                return;
            }
            int any = cellOf(a | b, NONE);
            float hashed = (thought[a] + 2f * thought[b]) + thought[a | b];
            offer(any, HASH, (best[anyA] + best[anyB]) + hashed, anyA, anyB, j);
            for (int order = NONE; order < PLACES; order++) {
                if (order == NONE || isWithin(a, order)) {
                    int leftA = cellOf(a, order);
                    float looped = best[leftA] + thought[a] * best[anyB];
                    offer(cellOf(a | b, order), LOOP, looped, leftA, anyB, j);
                }
            }
            int placeInA = world.placeIn(a, j);
            int orderedA = cellOf(a, placeInA);
            int orderedB = cellOf(b, world.placeIn(b, j));
            float merged = (best[orderedA] + best[orderedB]) + ((thought[a] + thought[b]) + thought[a | b]);
            offer(any, MERGE, merged, orderedA, orderedB, j);
            offer(cellOf(a | b, placeInA), MERGE, merged, orderedA, orderedB, j);
        }

        private void offerSorts(int set) {
            int any = cellOf(set, NONE);
            if (way[any] == NONE) {
                return;
            }
            float sorted = best[any] + costOfSorting(thought[set]);
            for (int place = 0; place < PLACES; place++) {
                if (isWithin(set, place)) {
                    offer(cellOf(set, place), SORT, sorted, any, NONE, NONE);
                }
            }
        }

        /** Only a lesser COST takes the place of a WAY: the first of the least ones stays. */
        private void offer(int cell, int by, float cost, int left, int right, int j) {
            if (way[cell] == NONE || cost < best[cell]) {
                way[cell] = by;
                best[cell] = cost;
                leftCell[cell] = left;
                rightCell[cell] = right;
                pairing[cell] = j;
                size[cell] = 1 + sizeOf(left) + sizeOf(right);
            }
        }

        private int sizeOf(int cell) {
            return cell == NONE ? 0 : size[cell];
        }

        /** Puts the NODES of a CELL in their row; how many they are. */
        int layOut(int root, Node[] nodes) {
            int count = Math.min(size[root], MOST_NODES);
            lay(0, root);
            for (int i = 0; i < count; i++) {
                int cell = laid[i];
                describe(cell, nodes[i]);
                lay(i + 1, leftCell[cell]);
                lay(i + 1 + sizeOf(leftCell[cell]), rightCell[cell]);
            }
            return count;
        }

        private void lay(int i, int cell) {
            if (cell != NONE && i < MOST_NODES) {
                laid[i] = cell;
            }
        }

        private void describe(int cell, Node node) {
            int right = rightCell[cell];
            node.way = way[cell];
            node.tables = cell / ORDERS;
            node.order = cell % ORDERS - 1;
            node.costBits = bitsOf(best[cell]);
            node.pairing = pairing[cell];
            node.placeInB = right == NONE ? NONE : world.placeIn(right / ORDERS, pairing[cell]);
            node.size = size[cell];
        }
    }

    /**
     * Counts the rows that really come. Sets of LINES are bits, and each LINE that is chosen narrows
     * what is left to choose in the TABLES behind it.
     */
    static final class Matches {
        private final World world;
        private final int[] members = new int[TABLES];
        private int count = 0;
        /** By step and TABLE: the LINES that fit all that has been chosen before the step. */
        private final int[] fits = new int[TABLES * TABLES];
        /** By TABLE, one of its LINES and another TABLE: the LINES there that all JOINS allow beside it. */
        private final int[] partners = new int[TABLES * LINES * TABLES];
        private final int[] rowsBy = new int[LINES];

        Matches(World world) {
            this.world = world;
        }

        /** How many rows there are, told by LINES of the first TABLE; from above MOST_ROWS on not all are counted. */
        int rowsOf(int set, int first) {
            chooseMembers(set, first);
            passFilters();
            pairLines(set);
            int rows = 0;
            for (int line = 0; line < LINES && rows <= MOST_ROWS; line++) {
                boolean fit = (fits[first] >> line & 1) == 1 && narrow(0, line);
                rowsBy[line] = fit ? rowsFrom(this, 1) : 0;
                rows += rowsBy[line];
            }
            return rows;
        }

        /** Of the TABLE that the rows were just told by. */
        long sumOf(int place) {
            Table table = world.tables[place / COLUMNS];
            long sum = 0;
            for (int line = 0; line < table.lines; line++) {
                sum += (long) rowsBy[line] * (long) table.valueAt(line, place % COLUMNS);
            }
            return sum;
        }

        private void chooseMembers(int set, int first) {
            members[0] = first;
            count = 1;
            for (int t = 0; t < TABLES; t++) {
                if (t != first && (set >> t & 1) == 1 && count < TABLES) {
                    members[count] = t;
                    count++;
                }
            }
        }

        private void passFilters() {
            for (int t = 0; t < TABLES; t++) {
                fits[t] = (1 << world.tables[t].lines) - 1;
            }
            for (int f = 0; f < world.filters; f++) {
                int place = world.filterPlace[f];
                Table table = world.tables[place / COLUMNS];
                for (int line = 0; line < table.lines; line++) {
                    if (!passes(f, table.valueAt(line, place % COLUMNS))) {
                        fits[place / COLUMNS] &= ~(1 << line);
                    }
                }
            }
        }

        private boolean passes(int f, int v) {
            int bound = world.filterValue[f];
            if (world.filterSign[f] == LESS) {
                return v < bound;
            }
            return world.filterSign[f] == EQUAL ? v == bound : v > bound;
        }

        private void pairLines(int set) {
            Arrays.fill(partners, (1 << LINES) - 1);
            for (int j = 0; j < world.joins; j++) {
                if (world.hasWithin(set, j)) {
                    pairLinesBy(world.joinFirst[j], world.joinSecond[j]);
                }
            }
        }

        private void pairLinesBy(int first, int second) {
            Table one = world.tables[first / COLUMNS];
            Table two = world.tables[second / COLUMNS];
            for (int i = 0; i < one.lines; i++) {
                for (int k = 0; k < two.lines; k++) {
                    if (one.valueAt(i, first % COLUMNS) != two.valueAt(k, second % COLUMNS)) {
                        partners[partnersAt(first / COLUMNS, i, second / COLUMNS)] &= ~(1 << k);
                        partners[partnersAt(second / COLUMNS, k, first / COLUMNS)] &= ~(1 << i);
                    }
                }
            }
        }

        private static int partnersAt(int table, int line, int other) {
            return (table * LINES + line) * TABLES + other;
        }

        /** Chooses a LINE at a step; false, if that leaves a TABLE behind without any. */
        private boolean narrow(int step, int line) {
            for (int later = step + 1; later < count; later++) {
                int other = members[later];
                int left = fits[step * TABLES + other] & partners[partnersAt(members[step], line, other)];
                if (left == 0) {
                    return false;
                }
                fits[(step + 1) * TABLES + other] = left;
            }
            return true;
        }

        /** At most one level for each TABLE: a step at or behind their count goes no deeper. */
        private static int rowsFrom(Matches matches, int step) {
            if (step >= matches.count) {
                return 1;
            }
            int open = matches.fits[step * TABLES + matches.members[step]];
            if (step == matches.count - 1) {
                return Integer.bitCount(open);
            }
            int rows = 0;
            for (int line = 0; line < LINES && rows <= MOST_ROWS; line++) {
                if ((open >> line & 1) == 1 && matches.narrow(step, line)) {
                    rows += rowsFrom(matches, step + 1);
                }
            }
            return rows;
        }
    }

    /**
     * Reads a TEXT from left to right, one state a sign. What it reads is written behind the LINES that
     * count, so a TEXT with a FAULT leaves no trace.
     */
    static final class TextReader {
        private static final int AT_ITEM = 0;
        private static final int AT_TABLE = 1;
        private static final int AT_COLON = 2;
        private static final int AT_VALUE = 3;
        private static final int IN_VALUE = 4;
        private static final int BEHIND_VALUE = 5;
        private final World world;
        private final int[] pending = new int[TABLES];
        private int state = AT_ITEM;
        private int table = 0;
        private int column = 0;
        private int number = 0;
        int items = 0;

        TextReader(World world) {
            this.world = world;
        }

        int faultIn(Shelf shelf) {
            Arrays.fill(pending, 0);
            state = AT_ITEM;
            items = 0;
            for (int i = 0; i < shelf.length; i++) {
                if (!takes(shelf.intAt(i))) {
                    return i;
                }
            }
            if (!isBehindLine()) {
                return shelf.length;
            }
            endItem();
            return NONE;
        }

        void bringLines() {
            for (int t = 0; t < TABLES; t++) {
                world.tables[t].lines = Math.min(world.tables[t].lines + pending[t], LINES);
            }
        }

        private boolean takes(int sign) {
            switch (state) {
                case AT_ITEM:
                    return moves(sign == 't', AT_TABLE);
                case AT_TABLE:
                    return takesTable(sign);
                case AT_COLON:
                    column = 0;
                    return moves(sign == ':', AT_VALUE);
                case AT_VALUE:
                    return takesFirstDigit(sign);
                case IN_VALUE:
                    return isDigit(sign) ? takesSecondDigit(sign) : takesMark(sign);
                default:
                    return takesMark(sign);
            }
        }

        private boolean moves(boolean may, int next) {
            state = may ? next : state;
            return may;
        }

        private boolean takesTable(int sign) {
            if (sign < '0' || sign >= '0' + TABLES) {
                return false;
            }
            table = sign - '0';
            return moves(true, AT_COLON);
        }

        /** Room for a LINE is still there at its second and third VALUE: a LINE is pending from its end on. */
        private boolean takesFirstDigit(int sign) {
            if (!isDigit(sign) || world.tables[table].lines + pending[table] >= LINES) {
                return false;
            }
            number = sign - '0';
            return moves(true, IN_VALUE);
        }

        private boolean takesSecondDigit(int sign) {
            number = number * 10 + (sign - '0');
            return moves(true, BEHIND_VALUE);
        }

        private boolean takesMark(int sign) {
            if (column < COLUMNS - 1) {
                return sign == ',' && endsValue();
            }
            if (sign == '/') {
                endLine();
                column = 0;
                return moves(true, AT_VALUE);
            }
            if (sign == ';') {
                endItem();
                return moves(true, AT_ITEM);
            }
            return false;
        }

        private static boolean isDigit(int sign) {
            return sign >= '0' && sign <= '9';
        }

        private boolean isBehindLine() {
            return (state == IN_VALUE || state == BEHIND_VALUE) && column == COLUMNS - 1;
        }

        private boolean endsValue() {
            keepNumber();
            column++;
            return moves(true, AT_VALUE);
        }

        private void keepNumber() {
            int line = world.tables[table].lines + pending[table];
            if (line < LINES) {
                world.tables[table].values[line * COLUMNS + column] = number;
            }
        }

        private void endLine() {
            keepNumber();
            pending[table]++;
        }

        private void endItem() {
            endLine();
            items++;
        }
    }

    /** A SHELF, with room for whatever it may come to hold. */
    static final class Shelf {
        static final int EMPTY = 0;
        static final int ROW = 1;
        static final int NODE = 2;
        int kind = EMPTY;
        int sort = 0;
        int length = 0;
        final long[] elements = new long[ELEMENTS];
        final Node node = new Node();

        void becomeRow(int newSort, int n) {
            kind = ROW;
            sort = newSort;
            length = n;
            Arrays.fill(elements, 0L);
        }

        void becomeNode(Node shown) {
            kind = NODE;
            node.become(shown);
        }

        int told() {
            if (kind == EMPTY) {
                return NONE;
            }
            return kind == ROW ? 100 + sort : 200 + node.way;
        }

        void keep(int i, long v) {
            switch (sort) {
                case 0:
                    elements[i] = (byte) v;
                    break;
                case 1:
                    elements[i] = (short) v;
                    break;
                case 2:
                    elements[i] = (int) v;
                    break;
                default:
                    elements[i] = v;
                    break;
            }
        }

        int intAt(int i) {
            return (int) elements[i];
        }
    }
}
