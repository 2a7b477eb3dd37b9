/** The edges of promises 9 and 12 to 18: TABLES, their HISTOGRAMS and SHARES. */
public final class TableBoundsTest extends Bounds {
    public static void main(String[] args) {
        lineNumbers();
        lineValues();
        lineRefusals();
        emptyTables();
        putBuckets();
        putStored();
        putRefusals();
        tableOfEdges();
        lineOfEdges();
        bucketsByLinesAndParts();
        bucketsWithoutValues();
        bucketEdges();
        differentEdges();
        shareAtLowsAndHighs();
        shareStepByStep();
        shareOfOneValue();
        shareWithoutLines();
        shareGreaterIsNotBelowNone();
        shareRefusals();
        Due.end("TableBoundsTest");
    }

    // ---- promise 9

    private static void lineNumbers() {
        for (int t = 0; t < 5; t++) {
            HistogramPlans x = new HistogramPlans();
            for (int i = 0; i < 16; i++) {
                Due.is("line: its number", i, x.line(t, i, 50 + i, 99 - i));
            }
            for (int i = 0; i < 16; i++) {
                Due.is("line: in its place", i, x.lineOf(t, i, 0));
                Due.is("line: in its place", 50 + i, x.lineOf(t, i, 1));
                Due.is("line: in its place", 99 - i, x.lineOf(t, i, 2));
            }
            Due.is("line: a 17th", -7, x.line(t, 0, 0, 0));
            Due.is("line: 16 LINES", 16, x.tableOf(t, 0));
            Due.is("line: others have room", 0, x.line((t + 1) % 5, 0, 0, 0));
            x.empty(t);
            Due.is("line: there is room again", 0, x.line(t, 0, 0, 0));
        }
    }

    private static void lineValues() {
        HistogramPlans x = new HistogramPlans();
        Due.is("line: least VALUES", 0, x.line(2, 0, 0, 0));
        Due.is("line: greatest VALUES", 1, x.line(2, 99, 99, 99));
        for (int column = 0; column < 3; column++) {
            Due.is("line: a least VALUE", 0, x.lineOf(2, 0, column));
            Due.is("line: a greatest VALUE", 99, x.lineOf(2, 1, column));
        }
        for (int v : NO_VALUES) {
            refuses("line: first VALUE " + v, -6, Bounds::rich, y -> y.line(0, v, 0, 0));
            refuses("line: second VALUE " + v, -6, Bounds::rich, y -> y.line(0, 0, v, 0));
            refuses("line: third VALUE " + v, -6, Bounds::rich, y -> y.line(0, 0, 0, v));
        }
    }

    private static void lineRefusals() {
        for (int t : NO_TABLES) {
            refuses("line: no TABLE " + t, -1, Bounds::rich, y -> y.line(t, 0, 0, 0));
            refuses("line: TABLE ahead of VALUES", -1, Bounds::rich, y -> y.line(t, -1, 100, 100));
        }
        refuses("line: no room", -7, Bounds::full, y -> y.line(0, 0, 0, 0));
        for (int v : NO_VALUES) {
            refuses("line: first VALUE ahead of room", -6, Bounds::full, y -> y.line(0, v, 0, 0));
            refuses("line: second VALUE ahead of room", -6, Bounds::full, y -> y.line(0, 0, v, 0));
            refuses("line: third VALUE ahead of room", -6, Bounds::full, y -> y.line(0, 0, 0, v));
        }
        keeps("line: others have room", 1, () -> {
            HistogramPlans x = full();
            x.line(4, 7, 8, 9);
            return x;
        }, y -> y.tableOf(4, 0) - 1);
    }

    // ---- promise 12

    private static void emptyTables() {
        keeps("empty: none", 0, Bounds::blank, y -> y.empty(0));
        keeps("empty: none", 0, Bounds::rich, y -> y.empty(4));
        for (int t = 0; t < 5; t++) {
            for (int lines : new int[] {1, 2, 15, 16}) {
                HistogramPlans x = new HistogramPlans();
                fill(x, t, lines);
                fill(x, (t + 1) % 5, 2);
                Due.is("empty: how many it had", lines, x.empty(t));
                Due.is("empty: none is left", 0, x.tableOf(t, 0));
                Due.is("empty: none is left", -5, x.lineOf(t, 0, 0));
                Due.is("empty: others stay", 2, x.status(0));
                Due.is("empty: again", 0, x.empty(t));
            }
        }
        HistogramPlans x = rich();
        x.empty(1);
        Due.is("empty: FILTERS stay", 2, x.status(1));
        Due.is("empty: JOINS stay", 3, x.status(2));
        Due.is("empty: BUCKETS stay", 4, x.tableOf(1, 1));
        Due.is("empty: STORED stays", 3, x.tableOf(1, 2));
        Due.is("empty: THE PLAN stays", 4, x.status(3));
        for (int t : NO_TABLES) {
            refuses("empty: no TABLE " + t, -1, Bounds::rich, y -> y.empty(t));
        }
    }

    // ---- promise 13

    private static void putBuckets() {
        for (int t = 0; t < 5; t++) {
            HistogramPlans x = new HistogramPlans();
            int was = 4;
            for (int v : new int[] {1, 8, 2, 7, 7, 4}) {
                Due.is("put BUCKETS: what it was", was, x.put(t, 0, v));
                Due.is("put BUCKETS", v, x.tableOf(t, 1));
                Due.is("put BUCKETS: STORED stays", 0, x.tableOf(t, 2));
                Due.is("put BUCKETS: others stay", 4, x.tableOf((t + 1) % 5, 1));
                was = v;
            }
        }
        for (int v : new int[] {0, 9, -1, 10, LEAST, MOST}) {
            refuses("put BUCKETS " + v, -16, Bounds::rich, y -> y.put(0, 0, v));
        }
    }

    private static void putStored() {
        for (int t = 0; t < 5; t++) {
            HistogramPlans x = new HistogramPlans();
            int was = NONE;
            for (int v : new int[] {NONE, 0, 2, NONE, 1, 1, 0}) {
                Due.is("put STORED: what it was", was, x.put(t, 1, v));
                Due.is("put STORED", v + 1, x.tableOf(t, 2));
                Due.is("put STORED: BUCKETS stay", 4, x.tableOf(t, 1));
                Due.is("put STORED: others stay", 0, x.tableOf((t + 1) % 5, 2));
                was = v;
            }
            for (int kind = 11; kind <= 17; kind++) {
                Due.is("put STORED: NONE is no REFUSAL", 0, x.status(kind));
            }
        }
        for (int v : new int[] {-2, 3, 4, LEAST, MOST}) {
            refuses("put STORED " + v, -16, Bounds::rich, y -> y.put(1, 1, v));
        }
    }

    private static void putRefusals() {
        for (int t : NO_TABLES) {
            refuses("put: no TABLE " + t, -11, Bounds::rich, y -> y.put(t, 0, 1));
            refuses("put: no TABLE " + t, -11, Bounds::rich, y -> y.put(t, 1, NONE));
            refuses("put: TABLE ahead of what", -11, Bounds::rich, y -> y.put(t, 2, 1));
            refuses("put: TABLE ahead of a number", -11, Bounds::rich, y -> y.put(t, 0, 0));
            refuses("put: TABLE ahead of all", -11, Bounds::rich, y -> y.put(t, -1, 99));
        }
        for (int what : new int[] {-1, 2, 3, LEAST, MOST}) {
            refuses("put: another what " + what, -15, Bounds::rich, y -> y.put(0, what, 1));
            refuses("put: what ahead of a number", -15, Bounds::rich, y -> y.put(0, what, 9));
            refuses("put: what ahead of a number", -15, Bounds::rich, y -> y.put(0, what, -2));
        }
    }

    // ---- promises 14 and 15

    private static void tableOfEdges() {
        int[][] want = {{3, 2, 0}, {3, 4, 3}, {0, 1, 0}, {1, 4, 0}, {0, 8, 3}};
        for (int t = 0; t < 5; t++) {
            for (int what = 0; what < 3; what++) {
                int table = t;
                int of = what;
                keeps("tableOf(" + t + ", " + what + ")", want[t][what], Bounds::rich, y -> y.tableOf(table, of));
            }
        }
        keeps("tableOf: 16 LINES", 16, Bounds::full, y -> y.tableOf(0, 0));
        for (int what : new int[] {-1, 3, LEAST, MOST}) {
            refuses("tableOf: another what " + what, -5, Bounds::rich, y -> y.tableOf(0, what));
        }
        for (int t : NO_TABLES) {
            refuses("tableOf: no TABLE " + t, -1, Bounds::rich, y -> y.tableOf(t, 0));
            refuses("tableOf: TABLE ahead of what", -1, Bounds::rich, y -> y.tableOf(t, 3));
        }
    }

    private static void lineOfEdges() {
        keeps("lineOf: the first", 1, Bounds::rich, y -> y.lineOf(0, 0, 0));
        keeps("lineOf: the last", 8, Bounds::rich, y -> y.lineOf(0, 2, 2));
        keeps("lineOf: the last of 16", 55, Bounds::full, y -> y.lineOf(0, 15, 2));
        for (int i : new int[] {-1, 3, 15, 16, LEAST, MOST}) {
            refuses("lineOf: no LINE " + i, -5, Bounds::rich, y -> y.lineOf(0, i, 0));
        }
        refuses("lineOf: no LINE 16", -5, Bounds::full, y -> y.lineOf(0, 16, 0));
        refuses("lineOf: no LINES", -5, Bounds::rich, y -> y.lineOf(2, 0, 0));
        for (int column : new int[] {-1, 3, LEAST, MOST}) {
            refuses("lineOf: no COLUMN " + column, -5, Bounds::rich, y -> y.lineOf(0, 0, column));
            refuses("lineOf: neither", -5, Bounds::rich, y -> y.lineOf(0, 3, column));
        }
        for (int t : NO_TABLES) {
            refuses("lineOf: no TABLE " + t, -1, Bounds::rich, y -> y.lineOf(t, 0, 0));
            refuses("lineOf: TABLE ahead of LINE", -1, Bounds::rich, y -> y.lineOf(t, -1, 0));
            refuses("lineOf: TABLE ahead of COLUMN", -1, Bounds::rich, y -> y.lineOf(t, 0, 3));
        }
    }

    // ---- promise 16

    /** So many LINES of TABLE 1, out of order: COLUMN 0 has 0, 3, 6, .., COLUMN 1 each VALUE twice, COLUMN 2 one alone. */
    private static HistogramPlans lines(int n, int parts) {
        HistogramPlans x = new HistogramPlans();
        x.put(1, 0, parts);
        for (int i = 0; i < 16; i++) {
            int v = i * 7 % 16;
            if (v < n) {
                x.line(1, 3 * v, v / 2, 99);
            }
        }
        return x;
    }

    private static void bucketsByLinesAndParts() {
        for (int n = 0; n <= 16; n++) {
            for (int parts = 1; parts <= 8; parts++) {
                HistogramPlans x = lines(n, parts);
                String what = n + " LINES, " + parts + " BUCKETS: bucket ";
                int k = 0;
                for (int part = 0; part < parts; part++) {
                    int from = part * n / parts;
                    int last = (part + 1) * n / parts - 1;
                    if (from <= last) {
                        is(what + k, x, 3, k, 3 * from, 3 * last, last - from + 1, last - from + 1);
                        is(what + k, x, 4, k, from / 2, last / 2, last - from + 1, last / 2 - from / 2 + 1);
                        is(what + k, x, 5, k, 99, 99, last - from + 1, 1);
                        k++;
                    }
                }
                Due.is(what + "behind the last", -5, x.bucket(3, k, 0));
                Due.is("those without VALUES are left out", Math.min(n, parts), k);
            }
        }
    }

    private static void is(String what, HistogramPlans x, int place, int k, int... want) {
        for (int i = 0; i < 4; i++) {
            Due.is(what + ", " + i, want[i], x.bucket(place, k, i));
        }
    }

    private static void bucketsWithoutValues() {
        HistogramPlans x = lines(3, 4);
        is("3 LINES, 4 BUCKETS: the first has none", x, 3, 0, 0, 0, 1, 1);
        is("3 LINES, 4 BUCKETS", x, 3, 2, 6, 6, 1, 1);
        Due.is("3 LINES, 4 BUCKETS: three are left", -5, x.bucket(3, 3, 0));
        x = lines(5, 4);
        is("5 LINES, 4 BUCKETS: cut", x, 3, 2, 6, 6, 1, 1);
        is("5 LINES, 4 BUCKETS: cut", x, 3, 3, 9, 12, 2, 2);
        x = lines(16, 8);
        is("16 LINES, 8 BUCKETS", x, 3, 7, 42, 45, 2, 2);
        Due.is("16 LINES, 8 BUCKETS", -5, x.bucket(3, 8, 0));
        x = lines(16, 1);
        is("16 LINES, 1 BUCKET", x, 3, 0, 0, 45, 16, 16);
        is("16 LINES, 1 BUCKET", x, 4, 0, 0, 7, 16, 8);
        x = lines(1, 8);
        is("1 LINE, 8 BUCKETS", x, 3, 0, 0, 0, 1, 1);
        Due.is("1 LINE, 8 BUCKETS", -5, x.bucket(3, 1, 0));
        Due.is("no LINES", -5, lines(0, 8).bucket(3, 0, 0));
    }

    private static void bucketEdges() {
        State five = () -> lines(5, 4);
        for (int what : new int[] {-1, 4, LEAST, MOST}) {
            refuses("bucket: another what " + what, -5, five, y -> y.bucket(3, 0, what));
        }
        for (int k : new int[] {-1, 4, 8, LEAST, MOST}) {
            refuses("bucket: no such one " + k, -5, five, y -> y.bucket(3, k, 0));
        }
        refuses("bucket: of no LINES", -5, five, y -> y.bucket(0, 0, 0));
        for (int place : NO_PLACES) {
            refuses("bucket: no PLACE " + place, -1, five, y -> y.bucket(place, 0, 0));
            refuses("bucket: PLACE ahead of k", -1, five, y -> y.bucket(place, -1, 0));
            refuses("bucket: PLACE ahead of what", -1, five, y -> y.bucket(place, 0, 4));
        }
        keeps("bucket: changes nothing", 9, five, y -> y.bucket(3, 3, 0));
        HistogramPlans x = new HistogramPlans();
        x.line(0, 10, 11, 12);
        x.line(4, 20, 21, 22);
        Due.is("bucket: the first PLACE", 10, x.bucket(0, 0, 0));
        Due.is("bucket: the last PLACE", 22, x.bucket(14, 0, 1));
    }

    // ---- promise 17

    private static void differentEdges() {
        for (int n = 0; n <= 16; n++) {
            int lines = n;
            keeps("different: of " + n, n, () -> lines(lines, 3), y -> y.different(3));
            keeps("different: pairs of " + n, (n + 1) / 2, () -> lines(lines, 3), y -> y.different(4));
            keeps("different: all alike of " + n, n == 0 ? 0 : 1, () -> lines(lines, 3), y -> y.different(5));
        }
        for (int place : NO_PLACES) {
            refuses("different: no PLACE " + place, -1, Bounds::rich, y -> y.different(place));
        }
        keeps("different: the first PLACE", 3, Bounds::rich, y -> y.different(0));
        keeps("different: the last PLACE", 0, Bounds::rich, y -> y.different(14));
    }

    // ---- promise 18

    /** BUCKETS 10 to 20 (2 LINES, 2 different), 30 to 40 (3 LINES, 2 different) of PLACE 8. */
    private static HistogramPlans twoBuckets() {
        HistogramPlans x = new HistogramPlans();
        x.put(2, 0, 2);
        for (int v : new int[] {40, 30, 10, 30, 20}) {
            x.line(2, 0, 0, v);
        }
        return x;
    }

    private static void share(int sign, int v, float want) {
        keeps("share(8, " + sign + ", " + v + ")", Float.floatToIntBits(want), TableBoundsTest::twoBuckets, y -> y.share(8, sign, v));
    }

    private static void shareAtLowsAndHighs() {
        float[][] less = {{0, 0f}, {9, 0f}, {10, 0f}, {11, 2f * (1f / 11f) / 5f}, {19, 2f * (9f / 11f) / 5f},
            {20, 2f * (10f / 11f) / 5f}, {21, 2f / 5f}, {29, 2f / 5f}, {30, 2f / 5f}, {31, (2f + 3f * (1f / 11f)) / 5f},
            {40, (2f + 3f * (10f / 11f)) / 5f}, {41, 1f}, {99, 1f}};
        float[][] equal = {{0, 0f}, {9, 0f}, {10, 1f / 5f}, {15, 1f / 5f}, {20, 1f / 5f}, {21, 0f}, {29, 0f},
            {30, 1.5f / 5f}, {40, 1.5f / 5f}, {41, 0f}, {99, 0f}};
        float[][] greater = {{0, 1f}, {9, 1f}, {10, 1f - 1f / 5f}, {20, 1f - (2f * (10f / 11f) / 5f + 1f / 5f)},
            {21, 1f - 2f / 5f}, {30, 1f - (2f / 5f + 1.5f / 5f)}, {40, 0f}, {41, 0f}, {99, 0f}};
        for (float[] pair : less) {
            share(0, (int) pair[0], pair[1]);
        }
        for (float[] pair : equal) {
            share(1, (int) pair[0], pair[1]);
        }
        for (float[] pair : greater) {
            share(2, (int) pair[0], pair[1]);
        }
    }

    /** Each BUCKET's numbers as bucket() tells them, put together as the document says. */
    private static void shareStepByStep() {
        for (int seed = 1; seed <= 12; seed++) {
            for (int parts = 1; parts <= 8; parts++) {
                HistogramPlans x = new HistogramPlans();
                x.seed(seed * 7919);
                x.drawn(40);
                x.put(0, 0, parts);
                int n = x.tableOf(0, 0);
                int[][] buckets = new int[Math.min(n, parts)][4];
                for (int k = 0; k < buckets.length; k++) {
                    for (int what = 0; what < 4; what++) {
                        buckets[k][what] = x.bucket(0, k, what);
                    }
                }
                for (int v = 0; v < 22; v++) {
                    float less = less(buckets, v, n);
                    float equal = equal(buckets, v, n);
                    float left = 1f - (less + equal);
                    Due.bits("share less than " + v, less, x.share(0, 0, v));
                    Due.bits("share equal to " + v, equal, x.share(0, 1, v));
                    Due.bits("share greater than " + v, left < 0f ? 0f : left, x.share(0, 2, v));
                }
            }
        }
    }

    private static float less(int[][] buckets, int v, int n) {
        float s = 0f;
        for (int[] b : buckets) {
            if (v > b[1]) {
                s = s + b[2];
            } else if (v > b[0]) {
                float part = (float) (v - b[0]) / (float) (b[1] - b[0] + 1);
                s = s + (float) b[2] * part;
            }
        }
        return n == 0 ? 0f : s / n;
    }

    private static float equal(int[][] buckets, int v, int n) {
        float s = 0f;
        for (int[] b : buckets) {
            if (v >= b[0] && v <= b[1]) {
                s = s + (float) b[2] / (float) b[3];
            }
        }
        return n == 0 ? 0f : s / n;
    }

    private static void shareOfOneValue() {
        State four = () -> {
            HistogramPlans x = new HistogramPlans();
            fill(x, 0, 4);
            return x;
        };
        int one = Float.floatToIntBits(1f);
        keeps("share: less than the only VALUE", 0, four, y -> y.share(0, 0, 0));
        keeps("share: equal to it, BUCKET by BUCKET", one, four, y -> y.share(0, 1, 0));
        keeps("share: greater than it", 0, four, y -> y.share(0, 2, 0));
        keeps("share: less than one more", one, four, y -> y.share(0, 0, 1));
        keeps("share: equal to one more", 0, four, y -> y.share(0, 1, 1));
        keeps("share: greater than one more", 0, four, y -> y.share(0, 2, 1));
        HistogramPlans x = new HistogramPlans();
        x.line(4, 0, 0, 99);
        Due.bits("share: the greatest VALUE, less", 0f, x.share(14, 0, 99));
        Due.bits("share: the greatest VALUE, equal", 1f, x.share(14, 1, 99));
        Due.bits("share: the greatest VALUE, greater", 0f, x.share(14, 2, 99));
        Due.bits("share: greater than one below", 1f, x.share(14, 2, 98));
    }

    private static void shareWithoutLines() {
        for (int sign = 0; sign < 3; sign++) {
            int of = sign;
            for (int v : new int[] {0, 50, 99}) {
                keeps("share: no LINES", 0, Bounds::blank, y -> y.share(0, of, v));
                keeps("share: no LINES in this TABLE", 0, Bounds::rich, y -> y.share(14, of, v));
            }
        }
        HistogramPlans x = new HistogramPlans();
        fill(x, 0, 3);
        x.empty(0);
        Due.bits("share: no LINES any more", 0f, x.share(0, 2, 0));
    }

    private static void shareGreaterIsNotBelowNone() {
        HistogramPlans x = new HistogramPlans();
        x.put(0, 0, 1);
        x.line(0, 0, 0, 0);
        x.line(0, 0, 0, 0);
        x.line(0, 9, 0, 0);
        float left = 1f - (3f * (9f / 10f) / 3f + 3f / 2f / 3f);
        Due.is("share: what is left is below 0", 1, left < 0f ? 1 : 0);
        Due.bits("share greater: 0, if that is below 0", 0f, x.share(0, 2, 9));
        float atNine = 1f - (3f * (4f / 10f) / 3f + 3f / 2f / 3f);
        Due.bits("share greater: just above 0", atNine, x.share(0, 2, 4));
    }

    private static void shareRefusals() {
        for (int place : NO_PLACES) {
            refuses("share: no PLACE " + place, -11, Bounds::rich, y -> y.share(place, 0, 0));
            refuses("share: PLACE ahead of SIGN", -11, Bounds::rich, y -> y.share(place, 3, 0));
            refuses("share: PLACE ahead of VALUE", -11, Bounds::rich, y -> y.share(place, 0, 100));
        }
        for (int sign : NO_SIGNS) {
            refuses("share: SIGN " + sign, -16, Bounds::rich, y -> y.share(0, sign, 0));
            refuses("share: SIGN " + sign + " without LINES", -16, Bounds::rich, y -> y.share(14, sign, 0));
        }
        for (int v : NO_VALUES) {
            for (int sign = 0; sign < 3; sign++) {
                int of = sign;
                refuses("share: VALUE " + v, -16, Bounds::rich, y -> y.share(0, of, v));
                refuses("share: VALUE " + v + " without LINES", -16, Bounds::rich, y -> y.share(14, of, v));
            }
        }
        refuses("share: neither", -16, Bounds::rich, y -> y.share(0, -1, 100));
    }
}
