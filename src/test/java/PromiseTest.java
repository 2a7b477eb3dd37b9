/** For each promise: ordinary inputs, the edges that the document names, wrong inputs. */
public final class PromiseTest {
    private static final int[] WRONG_TABLES = {-1, 5, Integer.MIN_VALUE, Integer.MAX_VALUE};
    private static final int[] WRONG_SHELVES = {-1, 8, Integer.MIN_VALUE, Integer.MAX_VALUE};
    private static final int[] WRONG_PLACES = {-1, 15, Integer.MIN_VALUE, Integer.MAX_VALUE};
    private static final int[] WRONG_SETS = {0, 32, -1, Integer.MIN_VALUE, Integer.MAX_VALUE};

    public static void main(String[] args) {
        promise1NewObject();
        promise2Row();
        promise3Set();
        promise4Copy();
        promise5Element();
        promise6Show();
        promise7Holds();
        promise8Says();
        promise9Line();
        promise10Read();
        promise11Fault();
        promise12Empty();
        promise13Put();
        promise14TableOf();
        promise15LineOf();
        promise16Bucket();
        promise17Different();
        promise18Share();
        promise19Filter();
        promise20Join();
        promise21Clear();
        promise22FilterOf();
        promise23JoinOf();
        promise24JoinShare();
        promise25Thought();
        promise26Sorting();
        promise27Cost();
        promise28Plan();
        promise29NodeOf();
        promise30Really();
        promise31Sum();
        promise32WrongBy();
        promise33Judge();
        promise34Drawn();
        promise35Seed();
        promise36Image();
        promise37Restore();
        promise38Status();
        Due.end("PromiseTest");
    }

    // ---- helpers

    private static void text(HistogramPlans x, int s, String text) {
        x.row(s, 0, text.length());
        for (int i = 0; i < text.length(); i++) {
            x.set(s, i, text.charAt(i));
        }
    }

    private static HistogramPlans of(String text) {
        HistogramPlans x = new HistogramPlans();
        text(x, 7, text);
        Due.is("read(" + text + ")", text.split(";").length, x.read(7));
        x.show(7, HistogramPlans.NONE);
        return x;
    }

    private static int told(HistogramPlans x, int... ways) {
        x.row(6, 2, ways.length);
        for (int i = 0; i < ways.length; i++) {
            x.set(6, i, ways[i]);
        }
        return x.judge(6, ways.length);
    }

    private static void refused(String call, HistogramPlans x, int number, int got) {
        Due.is(call, number, got);
        int kind = number <= -11 ? -number - 10 : -number;
        Due.is(call + ", counted", 1, x.status(10 + kind));
    }

    /** One SHELF of each kind: 0 a ROW of bytes, 1 a ROW of ints, 2 a NODE, 3 NOTHING. */
    private static HistogramPlans shelved() {
        HistogramPlans x = new HistogramPlans();
        x.row(0, 0, 4);
        x.row(1, 2, 4);
        x.plan(1, -1);
        x.show(2, 0);
        return x;
    }

    // ---- promises

    private static void promise1NewObject() {
        HistogramPlans x = new HistogramPlans();
        for (int what = 0; what < 20; what++) {
            long want = what == 4 ? 1 : what < 4 || (what > 10 && what < 18) ? 0 : -1;
            Due.is("new: status(" + what + ")", want, x.status(what));
        }
        for (int t = 0; t < 5; t++) {
            Due.is("new: lines", 0, x.tableOf(t, 0));
            Due.is("new: buckets", 4, x.tableOf(t, 1));
            Due.is("new: stored", 0, x.tableOf(t, 2));
        }
        for (int s = 0; s < 8; s++) {
            Due.is("new: holds", -1, x.holds(s));
        }
        Due.is("new: fault", -1, x.fault());
        Due.is("new: restore", -6, x.restore());
        Due.is("NONE", -1, HistogramPlans.NONE);
    }

    private static void promise2Row() {
        HistogramPlans x = new HistogramPlans();
        for (int sort = 0; sort < 4; sort++) {
            Due.is("row", 1, x.row(sort, sort, 160));
            Due.is("row: holds", 100 + sort, x.holds(sort));
        }
        Due.is("row of none", 1, x.row(7, 0, 0));
        x.set(0, 159, 5);
        x.row(0, 3, 160);
        Due.is("a new row has 0", 0, x.element(0, 159));
        Due.is("a new row's sort", 103, x.holds(0));
        for (int s : WRONG_SHELVES) {
            Due.is("row: shelf", -1, x.row(s, -1, -1));
        }
        Due.is("row: below is ahead of wrong", -4, x.row(0, 4, -1));
        Due.is("row: wrong is ahead of room", -6, x.row(0, 4, 161));
        Due.is("row: wrong", -6, x.row(0, -1, 1));
        Due.is("row: room", -7, x.row(0, 0, 161));
        Due.is("row: room", -7, x.row(0, 0, Integer.MAX_VALUE));
        Due.is("row: refused, nothing changes", 103, x.holds(0));
    }

    private static void promise3Set() {
        HistogramPlans x = shelved();
        long v = 0x123456789abcdef0L;
        long[] kept = {(byte) v, (short) v, (int) v, v};
        for (int sort = 0; sort < 4; sort++) {
            x.row(4, sort, 2);
            Due.is("set", 1, x.set(4, 1, v));
            Due.is("set keeps the lowest bits", kept[sort], x.element(4, 1));
            Due.is("set leaves the others", 0, x.element(4, 0));
        }
        x.row(4, 0, 1);
        x.set(4, 0, 128);
        Due.is("set: a byte's sign", -128, x.element(4, 0));
        for (int s : WRONG_SHELVES) {
            Due.is("set: shelf", -1, x.set(s, 0, 0));
        }
        Due.is("set: node", -2, x.set(2, 9, 0));
        Due.is("set: nothing", -3, x.set(3, 9, 0));
        Due.is("set: beyond", -5, x.set(0, 4, 0));
        Due.is("set: beyond", -5, x.set(0, -1, 0));
    }

    private static void promise4Copy() {
        HistogramPlans x = shelved();
        x.row(4, 2, 5);
        for (int i = 0; i < 5; i++) {
            x.set(4, i, i + 1);
        }
        Due.is("copy", 1, x.copy(4, 1, 2, 1, 3));
        Due.is("copy", 0, x.element(1, 0));
        Due.is("copy", 3, x.element(1, 1));
        Due.is("copy", 5, x.element(1, 3));
        Due.is("copy within, upwards", 1, x.copy(4, 4, 0, 1, 4));
        Due.is("copy as they were ahead", 4, x.element(4, 4));
        Due.is("copy as they were ahead", 1, x.element(4, 1));
        Due.is("copy within, downwards", 1, x.copy(4, 4, 1, 0, 4));
        Due.is("copy as they were ahead", 4, x.element(4, 3));
        Due.is("copy of none at the end", 1, x.copy(4, 1, 5, 4, 0));
        for (int s : WRONG_SHELVES) {
            Due.is("copy: p", -1, x.copy(s, 2, 0, 0, -1));
            Due.is("copy: q", -1, x.copy(2, s, 0, 0, -1));
        }
        Due.is("copy: a node", -2, x.copy(2, 3, 0, 0, 1));
        Due.is("copy: a node", -2, x.copy(3, 2, 0, 0, 1));
        Due.is("copy: two sorts", -2, x.copy(0, 1, 0, 0, -1));
        Due.is("copy: nothing", -3, x.copy(3, 0, 0, 0, -1));
        Due.is("copy: nothing", -3, x.copy(0, 3, 0, 0, -1));
        Due.is("copy: below", -4, x.copy(4, 1, -1, 0, -1));
        Due.is("copy: i below 0", -5, x.copy(4, 1, -1, 0, 1));
        Due.is("copy: j below 0", -5, x.copy(4, 1, 0, -1, 0));
        Due.is("copy: i's end", -5, x.copy(4, 1, 4, 0, 2));
        Due.is("copy: j's end", -5, x.copy(4, 1, 0, 2, 3));
        Due.is("copy: an end that wraps", -5, x.copy(4, 1, 1, 1, Integer.MAX_VALUE));
        Due.is("copy: an end that wraps", -5, x.copy(4, 1, Integer.MAX_VALUE, 0, Integer.MAX_VALUE));
        Due.is("copy of none behind the end", -5, x.copy(4, 1, 6, 0, 0));
    }

    private static void promise5Element() {
        HistogramPlans x = shelved();
        x.row(5, 3, 1);
        x.set(5, 0, Long.MIN_VALUE + 1);
        Due.is("element: a long as it is", Long.MIN_VALUE + 1, x.element(5, 0));
        Due.is("element: none", 0, x.element(5, 1));
        Due.is("element: none", 0, x.element(5, -1));
        Due.is("element: of a node", 0, x.element(2, 0));
        Due.is("element: of nothing", 0, x.element(3, 0));
        for (int s : WRONG_SHELVES) {
            Due.is("element: shelf", 0, x.element(s, 0));
        }
        for (int kind = 11; kind <= 17; kind++) {
            Due.is("element: nothing is refused", 0, x.status(kind));
        }
        x.row(5, 3, 0);
        x.row(5, 3, 1);
        Due.is("element: of a new row", 0, x.element(5, 0));
    }

    private static void promise6Show() {
        HistogramPlans x = of("t0:1,2,3");
        Due.is("show: no plan yet", -1, x.show(0, 0));
        x.plan(1, 2);
        Due.is("show", 1, x.show(0, 0));
        Due.is("show", 1, x.show(1, 1));
        Due.is("show: holds", 204, x.holds(0));
        Due.is("show: holds", 200, x.holds(1));
        Due.is("show: behind the last node", -1, x.show(0, 2));
        Due.is("show: below none", -1, x.show(0, -2));
        for (int s : WRONG_SHELVES) {
            Due.is("show: shelf", -1, x.show(s, -1));
        }
        x.line(0, 1, 1, 1);
        x.plan(1, -1);
        Due.is("show: it stays that", 204, x.holds(0));
        Due.bits("show: it stays that", 2f, x.says(0, 0));
        Due.is("show: nothing", 0, x.show(0, -1));
        Due.is("show: nothing", -1, x.holds(0));
        Due.is("show: nothing, again", 0, x.show(0, -1));
        x.row(3, 0, 1);
        Due.is("show: instead of a row", 1, x.show(3, 0));
        Due.is("show: instead of a row", 200, x.holds(3));
    }

    private static void promise7Holds() {
        HistogramPlans x = shelved();
        Due.is("holds: bytes", 100, x.holds(0));
        Due.is("holds: ints", 102, x.holds(1));
        Due.is("holds: a node", 200, x.holds(2));
        Due.is("holds: nothing", -1, x.holds(3));
        for (int s : WRONG_SHELVES) {
            Due.is("holds: shelf", -1, x.holds(s));
        }
        Due.is("holds: nothing is refused", 0, x.status(11));
    }

    private static void promise8Says() {
        HistogramPlans x = new HistogramPlans();
        for (int i = 0; i < 16; i++) {
            x.line(1, i, 0, 0);
            x.line(3, 0, 0, i);
        }
        x.join(11, 3);
        x.put(1, 1, 0);
        x.put(3, 1, 2);
        x.plan(10, -1);
        for (int i = 0; i < 3; i++) {
            x.show(i, i);
        }
        Due.is("says: a merge", 203, x.holds(0));
        x.plan(10, 4);
        x.show(3, 0);
        x.clear();
        x.empty(1);
        x.plan(1, -1);
        Due.bits("says: cost of a merge", 80f, x.says(0, 0));
        Due.is("says: j of a merge", 0, x.says(0, 2));
        Due.is("says: place in b", 11, x.says(0, 3));
        Due.is("says: a merge is no read", -2, x.says(0, 1));
        Due.is("says: a merge is no sort", -2, x.says(0, 4));
        Due.is("says: a read's table", 1, x.says(1, 1));
        Due.is("says: a read's table", 3, x.says(2, 1));
        Due.bits("says: a read's cost", 16f, x.says(2, 0));
        Due.is("says: a read is no pair", -2, x.says(2, 2));
        Due.is("says: a read is no merge", -2, x.says(2, 3));
        Due.is("says: a sort's place", 4, x.says(3, 4));
        Due.is("says: a sort is no read", -2, x.says(3, 1));
        Due.is("says: a sort is no pair", -2, x.says(3, 2));
        x.row(4, 0, 1);
        Due.is("says: a row", -2, x.says(4, 0));
        Due.is("says: nothing", -3, x.says(5, 0));
        Due.is("says: as", -1, x.says(5, 5));
        Due.is("says: as", -1, x.says(4, -1));
        for (int s : WRONG_SHELVES) {
            Due.is("says: shelf", -1, x.says(s, 0));
        }
    }

    private static void promise9Line() {
        HistogramPlans x = new HistogramPlans();
        for (int i = 0; i < 16; i++) {
            Due.is("line", i, x.line(4, i, 99, 99 - i));
        }
        Due.is("line: a value", 3, x.lineOf(4, 3, 0));
        Due.is("line: a value", 99, x.lineOf(4, 3, 1));
        Due.is("line: a value", 96, x.lineOf(4, 3, 2));
        for (int t : WRONG_TABLES) {
            Due.is("line: table", -1, x.line(t, 100, 0, 0));
        }
        for (int v : new int[] {-1, 100, Integer.MIN_VALUE, Integer.MAX_VALUE}) {
            Due.is("line: a", -6, x.line(4, v, 0, 0));
            Due.is("line: b", -6, x.line(0, 0, v, 0));
            Due.is("line: c", -6, x.line(0, 0, 0, v));
        }
        Due.is("line: room", -7, x.line(4, 0, 0, 0));
        Due.is("line: refused, nothing changes", 16, x.status(0));
    }

    private static void fails(HistogramPlans x, String text, int place) {
        text(x, 0, text);
        int lines = x.status(0);
        Due.is("read(" + text + ")", -6, x.read(0));
        Due.is("fault of " + text, place, x.fault());
        Due.is("all or nothing: " + text, lines, x.status(0));
    }

    private static void promise10Read() {
        HistogramPlans x = new HistogramPlans();
        text(x, 0, "t4:1,02,99/0,0,10;t0:7,8,9;t4:5,5,5");
        Due.is("read: items", 3, x.read(0));
        Due.is("read: none wrong", -1, x.fault());
        int[] want = {1, 2, 99, 0, 0, 10, 5, 5, 5};
        for (int i = 0; i < 9; i++) {
            Due.is("read: values", want[i], x.lineOf(4, i / 3, i % 3));
        }
        Due.is("read: another table", 9, x.lineOf(0, 0, 2));
        Due.is("read: again, behind", 3, x.read(0));
        Due.is("read: again, behind", 6, x.tableOf(4, 0));
        promise10ReadWrong(x);
        HistogramPlans y = shelved();
        for (int s : WRONG_SHELVES) {
            Due.is("read: shelf", -1, y.read(s));
        }
        Due.is("read: a node", -2, y.read(2));
        Due.is("read: nothing", -3, y.read(3));
    }

    private static void promise10ReadWrong(HistogramPlans x) {
        fails(x, "", 0);
        fails(x, "x", 0);
        fails(x, "t", 1);
        fails(x, "t5", 1);
        fails(x, "t/", 1);
        fails(x, "t1", 2);
        fails(x, "t1;", 2);
        fails(x, "t1:", 3);
        fails(x, "t1:,", 3);
        fails(x, "t1:;", 3);
        fails(x, "t1: 1", 3);
        fails(x, "t1:1", 4);
        fails(x, "t1:1/", 4);
        fails(x, "t1:1;", 4);
        fails(x, "t1:12", 5);
        fails(x, "t1:123", 5);
        fails(x, "t1:1,", 5);
        fails(x, "t1:1,2", 6);
        fails(x, "t1:1,2,3,", 8);
        fails(x, "t1:1,2,3/", 9);
        fails(x, "t1:1,2,3;", 9);
        fails(x, "t1:1,2,3;;", 9);
        fails(x, "t1:1,2,34 ", 9);
        fails(x, "t1:1,2,345", 9);
        fails(x, "T1:1,2,3", 0);
        fails(x, "t1:1,2,3;t2:1,2,3/4,5,6;t3:1,2,", 31);
        HistogramPlans full = new HistogramPlans();
        for (int i = 0; i < 15; i++) {
            full.line(2, 1, 1, 1);
        }
        fails(full, "t2:1,1,1/1,1,1", 9);
        fails(full, "t2:1,1,1/x", 9);
        fails(full, "t2:1,1,1/", 9);
        fails(full, "t2:1,1,1;t3:1,1,1;t2:1,1,1", 21);
        text(full, 0, "t2:1,1,1");
        Due.is("read: the last room", 1, full.read(0));
        fails(full, "t2:1,1,1", 3);
        readAsInts();
    }

    private static void readAsInts() {
        HistogramPlans x = new HistogramPlans();
        String text = "t0:1,2,3";
        x.row(0, 3, text.length());
        for (int i = 0; i < text.length(); i++) {
            x.set(0, i, text.charAt(i) + ((long) (i - 3) << 32));
        }
        Due.is("read: of longs the lowest 32 bits", 1, x.read(0));
        x.row(0, 2, text.length());
        for (int i = 0; i < text.length(); i++) {
            x.set(0, i, text.charAt(i) + (i == 5 ? 65536 : 0));
        }
        Due.is("read: ints are more than letters", -6, x.read(0));
        Due.is("read: ints are more than letters", 5, x.fault());
        x.set(0, 0, Integer.MIN_VALUE);
        Due.is("read: a least int", -6, x.read(0));
        Due.is("read: a least int", 0, x.fault());
        x.set(0, 0, 't');
        x.set(0, 1, Integer.MIN_VALUE);
        Due.is("read: a least int", -6, x.read(0));
        Due.is("read: a least int", 1, x.fault());
    }

    private static void promise11Fault() {
        HistogramPlans x = shelved();
        Due.is("fault: none yet", -1, x.fault());
        Due.is("fault: zeros", -6, x.read(0));
        Due.is("fault: zeros", 0, x.fault());
        text(x, 4, "t0:1,");
        x.read(4);
        Due.is("fault", 5, x.fault());
        x.read(-1);
        x.read(2);
        x.read(3);
        Due.is("fault: a read that came to no row", 5, x.fault());
        x.image();
        text(x, 4, "t0:1,1,1");
        x.read(4);
        Due.is("fault: there was none", -1, x.fault());
        x.read(0);
        x.restore();
        Due.is("fault: not of the image", 0, x.fault());
    }

    private static void promise12Empty() {
        HistogramPlans x = of("t0:1,2,3/4,5,6;t1:1,1,1");
        x.put(0, 0, 7);
        x.put(0, 1, 2);
        Due.is("empty", 2, x.empty(0));
        Due.is("empty: no lines", 0, x.tableOf(0, 0));
        Due.is("empty: buckets stay", 7, x.tableOf(0, 1));
        Due.is("empty: stored stays", 3, x.tableOf(0, 2));
        Due.is("empty: others stay", 1, x.tableOf(1, 0));
        Due.is("empty: again", 0, x.empty(0));
        Due.is("empty: a line is the first", 0, x.line(0, 9, 9, 9));
        Due.is("empty: no line is left", -5, x.lineOf(0, 1, 0));
        for (int t : WRONG_TABLES) {
            Due.is("empty: table", -1, x.empty(t));
        }
    }

    private static void promise13Put() {
        HistogramPlans x = new HistogramPlans();
        Due.is("put buckets", 4, x.put(3, 0, 1));
        Due.is("put buckets", 1, x.put(3, 0, 8));
        Due.is("put buckets", 8, x.tableOf(3, 1));
        Due.is("put stored", -1, x.put(3, 1, 2));
        Due.is("put stored", 2, x.put(3, 1, -1));
        Due.is("put stored", -1, x.put(3, 1, 0));
        Due.is("put stored", 1, x.tableOf(3, 2));
        Due.is("put: another table", 4, x.tableOf(2, 1));
        for (int v : new int[] {0, 9, -1, Integer.MIN_VALUE, Integer.MAX_VALUE}) {
            Due.is("put: buckets", -16, x.put(3, 0, v));
        }
        for (int v : new int[] {-2, 3, Integer.MIN_VALUE, Integer.MAX_VALUE}) {
            Due.is("put: stored", -16, x.put(3, 1, v));
        }
        Due.is("put: what", -15, x.put(3, 2, 99));
        Due.is("put: what", -15, x.put(3, -1, 1));
        for (int t : WRONG_TABLES) {
            Due.is("put: table", -11, x.put(t, 9, 99));
        }
        Due.is("put: counted", 4, x.status(11));
        Due.is("put: counted", 2, x.status(15));
        Due.is("put: counted", 9, x.status(16));
    }

    private static void promise14TableOf() {
        HistogramPlans x = of("t2:1,2,3");
        x.put(2, 0, 3);
        x.put(2, 1, 1);
        Due.is("tableOf", 1, x.tableOf(2, 0));
        Due.is("tableOf", 3, x.tableOf(2, 1));
        Due.is("tableOf", 2, x.tableOf(2, 2));
        Due.is("tableOf: what", -5, x.tableOf(2, 3));
        Due.is("tableOf: what", -5, x.tableOf(2, -1));
        for (int t : WRONG_TABLES) {
            Due.is("tableOf: table", -1, x.tableOf(t, 9));
        }
    }

    private static void promise15LineOf() {
        HistogramPlans x = of("t2:1,2,3/4,5,6");
        x.put(2, 1, 0);
        Due.is("lineOf", 1, x.lineOf(2, 0, 0));
        Due.is("lineOf", 6, x.lineOf(2, 1, 2));
        Due.is("lineOf: line", -5, x.lineOf(2, 2, 0));
        Due.is("lineOf: line", -5, x.lineOf(2, -1, 0));
        Due.is("lineOf: column", -5, x.lineOf(2, 0, 3));
        Due.is("lineOf: column", -5, x.lineOf(2, 0, -1));
        for (int t : WRONG_TABLES) {
            Due.is("lineOf: table", -1, x.lineOf(t, 9, 9));
        }
        HistogramPlans y = of("t0:9,0,0/1,0,0");
        y.put(0, 1, 0);
        Due.is("lineOf: stored lines keep their numbers", 9, y.lineOf(0, 0, 0));
    }

    private static void buckets(HistogramPlans x, int place, int... want) {
        for (int i = 0; i < want.length; i++) {
            Due.is("bucket(" + place + ", " + i / 4 + ", " + i % 4 + ")", want[i], x.bucket(place, i / 4, i % 4));
        }
        Due.is("bucket: behind the last", -5, x.bucket(place, want.length / 4, 0));
    }

    private static void promise16Bucket() {
        HistogramPlans x = of("t1:9,0,3/1,0,3/5,0,4/1,0,4/7,0,4");
        buckets(x, 3, 1, 1, 1, 1, 1, 1, 1, 1, 5, 5, 1, 1, 7, 9, 2, 2);
        x.put(1, 0, 2);
        buckets(x, 3, 1, 1, 2, 1, 5, 9, 3, 3);
        buckets(x, 4, 0, 0, 2, 1, 0, 0, 3, 1);
        buckets(x, 5, 3, 3, 2, 1, 4, 4, 3, 1);
        x.put(1, 0, 8);
        buckets(x, 3, 1, 1, 1, 1, 1, 1, 1, 1, 5, 5, 1, 1, 7, 7, 1, 1, 9, 9, 1, 1);
        buckets(x, 0);
        Due.is("bucket: what", -5, x.bucket(3, 0, 4));
        Due.is("bucket: what", -5, x.bucket(3, 0, -1));
        Due.is("bucket: k", -5, x.bucket(3, -1, 0));
        for (int p : WRONG_PLACES) {
            Due.is("bucket: place", -1, x.bucket(p, 9, 9));
        }
    }

    private static void promise17Different() {
        HistogramPlans x = of("t4:9,0,3/1,0,3/5,0,4/1,0,4/7,0,4");
        Due.is("different", 4, x.different(12));
        Due.is("different", 1, x.different(13));
        Due.is("different", 2, x.different(14));
        Due.is("different: no lines", 0, x.different(0));
        for (int p : WRONG_PLACES) {
            Due.is("different: place", -1, x.different(p));
        }
    }

    private static void promise18Share() {
        HistogramPlans x = of("t1:9,0,3/1,0,3/5,0,4/1,0,4/7,0,4");
        x.put(1, 0, 2);
        float less = (2f + 3f * (2f / 5f)) / 5f;
        float equal = (3f / 3f) / 5f;
        Due.bits("share less", less, x.share(3, 0, 7));
        Due.bits("share equal", equal, x.share(3, 1, 7));
        Due.bits("share greater", 1f - (less + equal), x.share(3, 2, 7));
        Due.bits("share less than the least", 0f, x.share(3, 0, 1));
        Due.bits("share less, between buckets", 2f / 5f, x.share(3, 0, 3));
        Due.bits("share less, at a low", 2f / 5f, x.share(3, 0, 5));
        Due.bits("share less, above all", 1f, x.share(3, 0, 10));
        Due.bits("share equal, between", 0f, x.share(3, 1, 3));
        Due.bits("share equal, two buckets", 1f, x.share(4, 1, 0));
        Due.bits("share greater, of one value", 0f, x.share(4, 2, 0));
        for (int sign = 0; sign < 3; sign++) {
            Due.bits("share: no lines", 0f, x.share(0, sign, 50));
            Due.is("share: value", -16, x.share(3, sign, -1));
            Due.is("share: value", -16, x.share(3, sign, 100));
        }
        Due.is("share: sign", -16, x.share(3, 3, 0));
        Due.is("share: sign", -16, x.share(3, -1, 0));
        for (int p : WRONG_PLACES) {
            Due.is("share: place", -11, x.share(p, 9, 999));
        }
        Due.is("share: counted", 4, x.status(11));
        Due.is("share: counted", 8, x.status(16));
        greaterIsNotBelowNone();
    }

    /** Buckets that share a value tell more of it than there is. */
    private static void greaterIsNotBelowNone() {
        HistogramPlans x = of("t0:0,0,0/0,0,0/9,0,0");
        x.put(0, 0, 1);
        float less = (3f * (9f / 10f)) / 3f;
        float equal = (3f / 2f) / 3f;
        Due.bits("share less, one bucket", less, x.share(0, 0, 9));
        Due.bits("share equal, one bucket", equal, x.share(0, 1, 9));
        Due.bits("share greater is 0 instead of below", 0f, x.share(0, 2, 9));
    }

    private static void promise19Filter() {
        HistogramPlans x = new HistogramPlans();
        for (int f = 0; f < 8; f++) {
            Due.is("filter", f, x.filter(14 - f, f % 3, 99 - f));
        }
        Due.is("filter: kept", 7, x.filterOf(7, 0));
        Due.is("filter: room", -7, x.filter(0, 0, 0));
        Due.is("filter: sign", -6, x.filter(0, 3, 0));
        Due.is("filter: sign", -6, x.filter(0, -1, 0));
        Due.is("filter: value", -6, x.filter(0, 0, 100));
        Due.is("filter: value", -6, x.filter(0, 0, -1));
        for (int p : WRONG_PLACES) {
            Due.is("filter: place", -1, x.filter(p, 3, 0));
        }
        Due.is("filter: no more", 8, x.status(1));
    }

    private static void promise20Join() {
        HistogramPlans x = new HistogramPlans();
        for (int j = 0; j < 8; j++) {
            Due.is("join", j, x.join(j + 3, j % 3));
        }
        Due.is("join: the lesser table first", 0, x.joinOf(0, 0));
        Due.is("join: the lesser table first", 3, x.joinOf(0, 1));
        Due.is("join: room", -7, x.join(0, 3));
        Due.is("join: of one table", -6, x.join(0, 2));
        Due.is("join: of one place", -6, x.join(14, 14));
        for (int p : WRONG_PLACES) {
            Due.is("join: place", -1, x.join(p, 0));
            Due.is("join: other", -1, x.join(0, p));
        }
        Due.is("join: no more", 8, x.status(2));
        x.clear();
        x.join(0, 3);
        Due.is("join: the same again", 1, x.join(3, 0));
    }

    private static void promise21Clear() {
        HistogramPlans x = new HistogramPlans();
        Due.is("clear: none", 0, x.clear());
        x.filter(0, 0, 0);
        x.join(0, 3);
        x.join(0, 3);
        Due.is("clear", 3, x.clear());
        Due.is("clear: no filters", 0, x.status(1));
        Due.is("clear: no joins", 0, x.status(2));
        Due.is("clear: a filter is the first", 0, x.filter(1, 1, 1));
        Due.is("clear: a join is the first", 0, x.join(1, 4));
    }

    private static void promise22FilterOf() {
        HistogramPlans x = new HistogramPlans();
        x.filter(14, 2, 99);
        Due.is("filterOf", 14, x.filterOf(0, 0));
        Due.is("filterOf", 2, x.filterOf(0, 1));
        Due.is("filterOf", 99, x.filterOf(0, 2));
        refused("filterOf: what", x, -5, x.filterOf(0, 3));
        for (int f : new int[] {1, 8, -1, Integer.MAX_VALUE}) {
            Due.is("filterOf: no such one", -5, x.filterOf(f, 0));
        }
        Due.is("filterOf: what", -5, x.filterOf(0, -1));
    }

    private static void promise23JoinOf() {
        HistogramPlans x = new HistogramPlans();
        x.join(14, 2);
        x.join(5, 6);
        Due.is("joinOf", 2, x.joinOf(0, 0));
        Due.is("joinOf", 14, x.joinOf(0, 1));
        Due.is("joinOf", 5, x.joinOf(1, 0));
        Due.is("joinOf", 6, x.joinOf(1, 1));
        refused("joinOf: what", x, -5, x.joinOf(0, 2));
        Due.is("joinOf: what", -5, x.joinOf(0, -1));
        for (int j : new int[] {2, 8, -1, Integer.MAX_VALUE}) {
            Due.is("joinOf: no such one", -5, x.joinOf(j, 0));
        }
    }

    private static void promise24JoinShare() {
        HistogramPlans x = of("t0:1,0,0/2,0,0/3,0,0;t1:1,0,0/1,0,0");
        x.join(0, 3);
        x.join(4, 1);
        x.join(6, 9);
        x.join(6, 1);
        Due.bits("joinShare: the greater one", 1f / 3f, x.joinShare(0));
        Due.bits("joinShare: 1", 1f, x.joinShare(1));
        Due.bits("joinShare: no lines", 0f, x.joinShare(2));
        Due.bits("joinShare: lines on one side", 1f, x.joinShare(3));
        for (int j : new int[] {4, 8, -1, Integer.MIN_VALUE}) {
            Due.is("joinShare: no such one", -1, x.joinShare(j));
        }
    }

    private static void promise25Thought() {
        HistogramPlans x = of("t0:1,0,0/2,0,0/3,0,0;t1:1,0,0/1,0,0;t4:0,0,0/1,1,1");
        Due.bits("thought of one", 3f, x.thought(1));
        Due.bits("thought without joins", 12f, x.thought(19));
        Due.bits("thought of an empty one", 0f, x.thought(5));
        x.filter(0, 0, 3);
        x.filter(12, 1, 1);
        x.filter(0, 2, 1);
        float zero = 3f * (2f / 3f) * (1f - (0f + 1f / 3f));
        Due.bits("thought with filters", zero, x.thought(1));
        x.join(0, 3);
        x.join(12, 3);
        Due.bits("thought with a join", zero * 2f * (1f / 3f), x.thought(3));
        Due.bits("thought: a join of another set", zero * (2f * (1f / 2f)), x.thought(17));
        Due.bits("thought of all", 1f * zero * 2f * 1f * (1f / 3f) * (1f / 2f), x.thought(19));
        for (int set : WRONG_SETS) {
            Due.is("thought: set", -6, x.thought(set));
        }
    }

    private static void promise26Sorting() {
        HistogramPlans x = of("t0:1,0,0/2,0,0/3,0,0/4,0,0;t1:1,0,0;t2:1,1,1/1,1,1/1,1,1");
        Due.bits("sorting 4", 12f, x.sorting(1));
        Due.bits("sorting 1", 1f, x.sorting(2));
        Due.bits("sorting 3", 6f, x.sorting(4));
        Due.bits("sorting 12", 48f, x.sorting(5));
        Due.bits("sorting none", 0f, x.sorting(8));
        x.filter(0, 0, 3);
        x.filter(0, 0, 2);
        Due.bits("sorting below 1, cut", 0.5f, x.thought(1));
        Due.bits("sorting below 1, cut", 0f, x.sorting(1));
        Due.bits("sorting 1.5, cut", 1.5f, x.sorting(5));
        for (int set : WRONG_SETS) {
            Due.is("sorting: set", -6, x.sorting(set));
        }
    }

    private static void promise27Cost() {
        HistogramPlans x = of("t0:1,0,0/2,0,0/3,0,0/4,0,0;t1:1,0,0/2,0,0/3,0,0");
        x.filter(0, 0, 2);
        Due.bits("cost of a read: lines, not thought", 4f, x.cost(1, -1));
        Due.bits("cost of a sort", 4f + 1f, x.cost(1, 0));
        x.put(0, 1, 0);
        Due.bits("cost by what it is stored by", 4f, x.cost(1, 0));
        Due.bits("cost by another column", 5f, x.cost(1, 1));
        Due.is("cost: no way without a join", -1, x.cost(3, -1));
        Due.is("cost: no way for a place outside", -1, x.cost(1, 3));
        Due.is("cost: no way is not refused", 0, x.status(15));
        x.join(0, 3);
        float thought = 1f * 1f * 3f * (1f / 4f);
        float loop = 4f + 1f * 3f;
        Due.bits("cost of a loop", loop, x.cost(3, -1));
        Due.bits("thought of both", thought, x.thought(3));
        Due.bits("cost of a loop that keeps an order", loop, x.cost(3, 0));
        Due.bits("cost of a sort above", loop, x.cost(3, 4));
        for (int set : WRONG_SETS) {
            Due.is("cost: set", -16, x.cost(set, -1));
        }
        for (int order : new int[] {-2, 15, Integer.MIN_VALUE, Integer.MAX_VALUE}) {
            Due.is("cost: order", -16, x.cost(1, order));
        }
        Due.is("cost: counted", 9, x.status(16));
    }

    private static void nodes(HistogramPlans x, int[]... want) {
        Due.is("nodes", want.length, x.status(3));
        for (int i = 0; i < want.length; i++) {
            int[] fields = {0, 1, 2, 4, 5};
            for (int k = 0; k < 5; k++) {
                Due.is("nodeOf(" + i + ", " + fields[k] + ")", want[i][k], x.nodeOf(i, fields[k]));
            }
        }
    }

    /** Three lines each, all values different: a hash costs most, a merge of stored tables least. */
    private static HistogramPlans chain() {
        HistogramPlans x = of("t0:1,2,3/4,5,6/7,8,9;t1:1,2,3/4,5,6/7,8,9;t2:1,2,3/4,5,6/7,8,9");
        x.join(1, 5);
        x.join(3, 8);
        return x;
    }

    private static void promise28Plan() {
        HistogramPlans x = chain();
        Due.is("plan of one", 1, x.plan(4, -1));
        nodes(x, new int[] {0, 4, 0, 0, 1});
        Due.is("plan: sorted", 2, x.plan(4, 8));
        nodes(x, new int[] {4, 4, 9, 0, 2}, new int[] {0, 4, 0, 0, 1});
        Due.is("plan of two", 3, x.plan(3, -1));
        nodes(x, new int[] {2, 3, 0, 1, 3}, new int[] {0, 1, 0, 0, 1}, new int[] {0, 2, 0, 0, 1});
        Due.is("plan: not connected", -5, x.plan(5, -1));
        Due.is("plan: order outside", -5, x.plan(3, 6));
        Due.is("plan: refused, it stays", 3, x.status(3));
        for (int set : WRONG_SETS) {
            Due.is("plan: set", -6, x.plan(set, 0));
        }
        Due.is("plan: order", -6, x.plan(5, 15));
        Due.is("plan: order", -6, x.plan(5, -2));
        x.clear();
        x.empty(0);
        nodes(x, new int[] {2, 3, 0, 1, 3}, new int[] {0, 1, 0, 0, 1}, new int[] {0, 2, 0, 0, 1});
        planOfMerges();
        planOfHash();
        planOfLoopInOrder();
        firstOfLeastWays();
    }

    private static void planOfMerges() {
        HistogramPlans x = new HistogramPlans();
        for (int i = 0; i < 16; i++) {
            x.line(3, i, 0, 0);
            x.line(4, i, 0, 0);
        }
        x.join(9, 12);
        x.put(3, 1, 0);
        x.put(4, 1, 0);
        Due.is("plan of a merge", 3, x.plan(24, -1));
        nodes(x, new int[] {3, 24, 0, 1, 3}, new int[] {0, 8, 10, 0, 1}, new int[] {0, 16, 13, 0, 1});
        Due.bits("plan of a merge, cost", 80f, x.nodeOf(0, 3));
        Due.is("plan of a merge by b", 3, x.plan(24, 12));
        nodes(x, new int[] {3, 24, 13, 1, 3}, new int[] {0, 16, 13, 0, 1}, new int[] {0, 8, 10, 0, 1});
        Due.is("plan of a sort above", 4, x.plan(24, 10));
        Due.is("plan of a sort above", 4, x.nodeOf(0, 0));
        Due.bits("plan of a sort above, cost", 80f + 16f * 5f, x.nodeOf(0, 3));
        Due.is("plan of a sort: what is below is any", 0, x.nodeOf(1, 2));
    }

    private static void planOfHash() {
        HistogramPlans x = new HistogramPlans();
        for (int i = 0; i < 16; i++) {
            x.line(3, i, 0, 0);
            x.line(4, i, 0, 0);
        }
        x.join(9, 12);
        Due.is("plan of a hash", 3, x.plan(24, -1));
        nodes(x, new int[] {1, 24, 0, 1, 3}, new int[] {0, 8, 0, 0, 1}, new int[] {0, 16, 0, 0, 1});
        Due.bits("plan of a hash, cost", 16f + 16f + ((16f + 2f * 16f) + 16f), x.nodeOf(0, 3));
    }

    private static void planOfLoopInOrder() {
        HistogramPlans x = of("t0:1,1,1/2,2,2;t1:1,1,1");
        x.join(0, 3);
        x.put(0, 1, 2);
        Due.is("plan of a loop in order", 3, x.plan(3, 2));
        nodes(x, new int[] {2, 3, 3, 1, 3}, new int[] {0, 1, 3, 0, 1}, new int[] {0, 2, 0, 0, 1});
        Due.bits("plan of a loop in order, cost", 4f, x.nodeOf(0, 3));
        x.plan(3, -1);
        Due.bits("plan: a lesser cost by the later split", 3f, x.nodeOf(0, 3));
        Due.is("plan: a lesser cost by the later split", 2, x.nodeOf(1, 1));
    }

    private static void firstOfLeastWays() {
        HistogramPlans x = new HistogramPlans();
        x.join(1, 4);
        x.join(0, 3);
        x.plan(3, -1);
        nodes(x, new int[] {1, 3, 0, 1, 3}, new int[] {0, 1, 0, 0, 1}, new int[] {0, 2, 0, 0, 1});
        x.plan(3, 1);
        Due.is("plan: of equal costs the first way", 2, x.nodeOf(0, 0));
        x.plan(3, 4);
        Due.is("plan: of equal costs the first split", 2, x.nodeOf(1, 1));
    }

    private static void promise29NodeOf() {
        HistogramPlans x = chain();
        Due.is("nodeOf: no plan", -5, x.nodeOf(0, 0));
        Due.is("plan", 5, x.plan(7, -1));
        nodes(x, new int[] {2, 7, 0, 2, 5}, new int[] {2, 3, 0, 1, 3}, new int[] {0, 1, 0, 0, 1},
            new int[] {0, 2, 0, 0, 1}, new int[] {0, 4, 0, 0, 1});
        float below = 3f + 3f * 3f;
        Due.bits("nodeOf: cost", below, x.nodeOf(1, 3));
        Due.bits("nodeOf: cost", below + 3f * 3f * (1f / 3f) * 3f, x.nodeOf(0, 3));
        Due.is("nodeOf: what", -5, x.nodeOf(0, 6));
        Due.is("nodeOf: what", -5, x.nodeOf(0, -1));
        for (int i : new int[] {-1, 5, 18, Integer.MIN_VALUE, Integer.MAX_VALUE}) {
            Due.is("nodeOf: no such one", -5, x.nodeOf(i, 0));
        }
        rightNodesComeBehindAllLeftOnes();
    }

    private static void rightNodesComeBehindAllLeftOnes() {
        HistogramPlans x = new HistogramPlans();
        for (int i = 0; i < 16; i++) {
            x.line(3, i, 0, i);
            x.line(4, i, 0, i);
        }
        x.put(4, 1, 2);
        x.join(11, 14);
        x.filter(9, 0, 3);
        int count = x.plan(24, 14);
        Due.is("nodeOf: all below the first", count, x.nodeOf(0, 5));
        Due.is("nodeOf: the left one", 1, x.nodeOf(1, 5));
    }

    private static void promise30Really() {
        HistogramPlans x = of("t0:1,5,0/1,6,0/2,7,0;t1:1,0,0/2,0,0/2,0,0;t2:7,0,0");
        Due.is("really: one", 3, x.really(1));
        Due.is("really: all pairs", 9, x.really(3));
        x.join(0, 3);
        Due.is("really: joined", 4, x.really(3));
        Due.is("really: joined and all", 4, x.really(7));
        x.filter(1, 2, 5);
        Due.is("really: greater", 3, x.really(3));
        x.filter(1, 0, 7);
        Due.is("really: less", 1, x.really(3));
        x.clear();
        x.filter(0, 1, 2);
        Due.is("really: equal", 1, x.really(1));
        x.join(1, 6);
        Due.is("really: a join by another column", 1, x.really(5));
        Due.is("really: an empty one", 0, x.really(9));
        for (int set : WRONG_SETS) {
            Due.is("really: set", -6, x.really(set));
        }
        HistogramPlans y = crowd(10);
        Due.is("really: 100,000", 100000, y.really(31));
        y.line(0, 1, 1, 1);
        Due.is("really: 110,000", -5, y.really(31));
        HistogramPlans z = crowd(16);
        Due.is("really: 65,536", 65536, z.really(30));
        Due.is("really: most", -5, z.really(31));
    }

    /** So many lines in each table, all alike but in the first column. */
    private static HistogramPlans crowd(int lines) {
        HistogramPlans x = new HistogramPlans();
        for (int t = 0; t < 5; t++) {
            for (int i = 0; i < lines; i++) {
                x.line(t, i, 7, 99);
            }
        }
        return x;
    }

    private static void promise31Sum() {
        HistogramPlans x = of("t0:1,5,0/1,6,0/2,7,0;t1:1,0,3/2,0,4/2,0,5;t2:7,0,0");
        Due.is("sum of one", 4, x.sum(1, 0));
        Due.is("sum of one", 18, x.sum(1, 1));
        x.join(0, 3);
        Due.is("sum of two", 1 + 1 + 2 + 2, x.sum(3, 0));
        Due.is("sum of two", 5 + 6 + 7 + 7, x.sum(3, 1));
        Due.is("sum of two", 3 + 3 + 4 + 5, x.sum(3, 5));
        Due.is("sum: not in it", -6, x.sum(3, 6));
        for (int p : WRONG_PLACES) {
            Due.is("sum: place", -1, x.sum(0, p));
        }
        for (int set : WRONG_SETS) {
            Due.is("sum: set", -6, x.sum(set, 0));
        }
        HistogramPlans y = crowd(10);
        Due.is("sum: of 100,000", 9900000, y.sum(31, 14));
        Due.is("sum: of 100,000", 450000, y.sum(31, 6));
        HistogramPlans z = crowd(16);
        z.line(0, 0, 0, 0);
        Due.is("sum: too many", -5, z.sum(31, 0));
        z.empty(0);
        for (int i = 0; i < 2; i++) {
            z.line(0, 1, 1, 1);
        }
        Due.is("sum: too many", -5, z.sum(31, 14));
        Due.is("sum: not too many, not in it", -6, z.sum(30, 0));
        z.clear();
        Due.is("sum: just enough", 65536 * 99, z.sum(30, 5));
    }

    private static void promise32WrongBy() {
        HistogramPlans x = of("t0:1,0,0/1,0,0/2,0,0;t1:1,0,0/1,0,0/3,0,0");
        Due.bits("wrongBy: not at all", 1f, x.wrongBy(1));
        Due.bits("wrongBy: both 0", 1f, x.wrongBy(4));
        x.join(0, 3);
        float thought = 9f * (1f / 2f);
        Due.bits("wrongBy: too much thought", thought / 4f, x.wrongBy(3));
        x.clear();
        x.filter(0, 2, 2);
        Due.bits("wrongBy: both 0", 1f, x.wrongBy(1));
        x.clear();
        x.put(0, 0, 1);
        x.filter(0, 0, 2);
        float thin = 3f * ((3f * (1f / 2f)) / 3f);
        Due.bits("wrongBy: too little thought", 2f / thin, x.wrongBy(1));
        x.clear();
        x.filter(0, 1, 50);
        Due.bits("wrongBy: both 0", 1f, x.wrongBy(1));
        for (int set : WRONG_SETS) {
            Due.is("wrongBy: set", -6, x.wrongBy(set));
        }
        Due.is("wrongBy: too many", -5, crowd(16).wrongBy(31));
        Due.bits("wrongBy: 100,000 are not too many", 1f, crowd(10).wrongBy(31));
        oneIsNone();
        thinnerAndThinner();
    }

    /** What is left of 1 is a rounding here: filter by filter the thought goes down to the least floats, then to 0. */
    private static void thinnerAndThinner() {
        int[] values = {4, 8, 9, 9, 12, 12, 13, 14, 17, 19, 21, 23};
        HistogramPlans x = new HistogramPlans();
        for (int v : values) {
            x.line(0, v, 0, 0);
        }
        x.put(0, 0, 1);
        float left = 1f - ((12f * (18f / 20f)) / 12f + (12f / 10f) / 12f);
        Due.bits("share: a rounding is left", 1f / (1 << 24), Float.floatToIntBits(left));
        Due.bits("share greater: a rounding", left, x.share(0, 2, 22));
        float thought = 12f;
        for (int filters = 1; filters <= 8; filters++) {
            x.filter(0, 2, 22);
            thought = thought * left;
            Due.bits("thought by " + filters + " filters", thought, x.thought(1));
            Due.is("really by " + filters + " filters", 1, x.really(1));
            Due.bits("wrongBy by " + filters + " filters", thought == 0f ? 0f : 1f / thought, x.wrongBy(1));
        }
        Due.bits("thought: none is left", 0f, x.thought(1));
        x.clear();
        for (int filters = 0; filters < 6; filters++) {
            x.filter(0, 2, 22);
        }
        Due.bits("wrongBy: above all floats", Float.POSITIVE_INFINITY, x.wrongBy(1));
    }

    private static void oneIsNone() {
        HistogramPlans x = of("t0:1,0,0/3,0,0");
        x.put(0, 0, 1);
        x.filter(0, 1, 2);
        Due.bits("wrongBy: none comes", 0f, x.wrongBy(1));
        HistogramPlans y = of("t0:0,0,0/1,0,0/3,0,0");
        y.put(0, 0, 1);
        y.filter(0, 2, 2);
        float left = 1f - ((3f * (2f / 4f)) / 3f + (3f / 3f) / 3f);
        Due.bits("wrongBy: one comes", 1f / (3f * left), y.wrongBy(1));
        HistogramPlans z = of("t0:0,0,0/0,0,0/0,0,0/3,0,0");
        z.put(0, 0, 1);
        z.filter(0, 2, 2);
        Due.bits("wrongBy: none is thought of", 0f, z.thought(1));
        Due.is("wrongBy: one comes", 1, z.really(1));
        Due.bits("wrongBy: none is thought of, one comes", 0f, z.wrongBy(1));
    }

    private static void promise33Judge() {
        HistogramPlans x = chain();
        x.row(0, 0, 160);
        Due.is("judge: no plan yet", -15, x.judge(0, 0));
        x.plan(7, 8);
        int[] ways = new int[x.status(3)];
        for (int i = 0; i < ways.length; i++) {
            ways[i] = x.nodeOf(i, 0);
        }
        Due.is("judge: all is so", -1, told(x, ways));
        Due.is("judge: fewer are told", ways.length - 1, x.judge(6, ways.length - 1));
        Due.is("judge: none is told", 0, x.judge(6, 0));
        x.set(6, 2, 9);
        Due.is("judge: the first that isn't so", 2, x.judge(6, ways.length));
        x.set(6, 1, -1);
        Due.is("judge: the first that isn't so", 1, x.judge(6, ways.length));
        x.plan(1, -1);
        Due.is("judge: more are told", 1, told(x, 0, 0));
        x.row(1, 3, 40);
        x.set(1, 0, 7L << 32);
        Due.is("judge: as ints", -1, x.judge(1, 1));
        Due.is("judge: 40", 1, x.judge(1, 40));
        for (int s : WRONG_SHELVES) {
            Due.is("judge: shelf", -11, x.judge(s, -1));
        }
        x.show(2, 0);
        Due.is("judge: a node", -12, x.judge(2, -1));
        Due.is("judge: nothing", -13, x.judge(3, -1));
        Due.is("judge: below", -14, x.judge(1, -1));
        Due.is("judge: fewer elements", -15, x.judge(1, 41));
        Due.is("judge: above 40", -16, x.judge(0, 41));
        Due.is("judge: counted", 1, x.status(14));
        Due.is("judge: counted", 2, x.status(15));
        Due.is("judge: counted", 1, x.status(16));
    }

    private static int draw(int[] seed, int n) {
        seed[0] = seed[0] * 1103515245 + 12345;
        return (seed[0] >> 16 & 0xffff) % n;
    }

    private static void promise34Drawn() {
        for (int start : new int[] {1, 7, -5, Integer.MIN_VALUE, 123456789}) {
            HistogramPlans x = new HistogramPlans();
            x.seed(start);
            int[] seed = {start};
            int[] lines = new int[5];
            for (int round = 0; round < 4; round++) {
                int n = round == 0 ? 1 : 40;
                int came = 0;
                int[][] last = new int[5][3];
                for (int i = 0; i < n; i++) {
                    int t = draw(seed, 5);
                    int[] line = {draw(seed, 20), draw(seed, 20), draw(seed, 20)};
                    if (lines[t] < 16) {
                        lines[t]++;
                        came++;
                        last[t] = line;
                    } else {
                        last[t] = null;
                    }
                }
                Due.is("drawn", came, x.drawn(n));
                for (int t = 0; t < 5; t++) {
                    Due.is("drawn: lines", lines[t], x.tableOf(t, 0));
                    for (int c = 0; last[t] != null && lines[t] > 0 && c < 3 && round == 1; c++) {
                        Due.is("drawn: values", last[t][c], x.lineOf(t, lines[t] - 1, c));
                    }
                }
                Due.is("drawn: seed", seed[0], x.status(4));
            }
            for (int n : new int[] {0, -1, 41, Integer.MIN_VALUE, Integer.MAX_VALUE}) {
                Due.is("drawn: wrong", -6, x.drawn(n));
            }
            Due.is("drawn: refused, the seed stays", seed[0], x.status(4));
        }
    }

    private static void promise35Seed() {
        HistogramPlans x = new HistogramPlans();
        Due.is("seed: at first", 1, x.seed(Integer.MIN_VALUE));
        Due.is("seed", Integer.MIN_VALUE, x.seed(-1));
        Due.is("seed", -1, x.seed(0));
        Due.is("seed", 0, x.status(4));
    }

    private static void promise36Image() {
        HistogramPlans x = of("t0:1,2,3/4,5,6;t4:1,1,1");
        Due.is("image", 3, x.image());
        x.empty(0);
        Due.is("image: a new one", 1, x.image());
        x.empty(4);
        Due.is("image: the latest counts", 1, x.restore());
        Due.is("image: of none", 0, new HistogramPlans().image());
    }

    private static void promise37Restore() {
        HistogramPlans x = of("t0:1,2,3/4,5,6;t4:1,1,1");
        refused("restore: none", x, -6, x.restore());
        x.put(0, 0, 2);
        x.put(0, 1, 1);
        x.filter(3, 2, 50);
        x.join(0, 12);
        x.seed(99);
        x.image();
        x.row(0, 0, 3);
        x.plan(1, 0);
        x.empty(0);
        x.line(0, 9, 9, 9);
        x.put(0, 0, 8);
        x.put(0, 1, -1);
        x.clear();
        x.filter(0, 0, 0);
        x.join(4, 8);
        x.join(4, 8);
        x.seed(5);
        for (int again = 0; again < 2; again++) {
            Due.is("restore", 3, x.restore());
            Due.is("restore: lines", 2, x.tableOf(0, 0));
            Due.is("restore: values", 6, x.lineOf(0, 1, 2));
            Due.is("restore: values", 1, x.lineOf(0, 0, 0));
            Due.is("restore: buckets", 2, x.tableOf(0, 1));
            Due.is("restore: stored", 2, x.tableOf(0, 2));
            Due.is("restore: filters", 1, x.status(1));
            Due.is("restore: filter", 3, x.filterOf(0, 0));
            Due.is("restore: filter", 2, x.filterOf(0, 1));
            Due.is("restore: filter", 50, x.filterOf(0, 2));
            Due.is("restore: joins", 1, x.status(2));
            Due.is("restore: join", 0, x.joinOf(0, 0));
            Due.is("restore: join", 12, x.joinOf(0, 1));
            Due.is("restore: seed", 99, x.status(4));
            Due.is("restore: shelves stay", 100, x.holds(0));
            Due.is("restore: the plan stays", 2, x.status(3));
            Due.is("restore: refusals stay", 1, x.status(16));
            x.line(0, 50, 50, 50);
            x.clear();
            x.drawn(3);
        }
    }

    private static void promise38Status() {
        HistogramPlans x = of("t0:1,2,3/4,5,6;t4:1,1,1");
        x.filter(0, 0, 0);
        x.join(0, 3);
        x.join(0, 6);
        x.plan(1, 2);
        x.seed(77);
        int[] want = {3, 1, 2, 2, 77};
        for (int what = 0; what < 5; what++) {
            Due.is("status", want[what], x.status(what));
        }
        x.row(-1, 0, 0);
        x.show(0, 0);
        x.set(0, 0, 0);
        x.set(0, 0, 0);
        for (int i = 0; i < 3; i++) {
            x.set(1, 0, 0);
        }
        for (int i = 0; i < 4; i++) {
            x.row(1, 0, -1);
        }
        for (int i = 0; i < 5; i++) {
            x.lineOf(0, 2, 0);
        }
        for (int i = 0; i < 6; i++) {
            x.thought(0);
        }
        for (int i = 0; i < 7; i++) {
            x.row(1, 0, 161);
        }
        for (int kind = 1; kind <= 7; kind++) {
            Due.is("status: refusals", kind, x.status(10 + kind));
        }
        for (int what : new int[] {-1, 5, 10, 18, Integer.MIN_VALUE, Integer.MAX_VALUE}) {
            Due.is("status: another what", -1, x.status(what));
        }
        Due.is("status: nothing is refused", 1, x.status(11));
    }
}
