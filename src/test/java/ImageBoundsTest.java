import java.util.Map;

/** The edges of promises 34 to 38: DRAWS and the SEED, THE IMAGE, and how many there are. */
public final class ImageBoundsTest extends Bounds {
    public static void main(String[] args) {
        drawsOfGivenSeeds();
        drawsStepByStep();
        drawnNumbers();
        drawnWithoutRoom();
        drawnRefusals();
        seedEdges();
        imageOfLines();
        imageChangesNothing();
        restoreWithoutImage();
        restoreBringsAllBack();
        restoreLeavesTheRest();
        imageStaysAsItWas();
        imagesAreNotMixed();
        statusCounts();
        statusOfRefusals();
        statusOfAnother();
        Due.end("ImageBoundsTest");
    }

    // ---- promises 34 and 35

    /** SEED, TABLE, three VALUES, SEED behind: by hand. */
    private static void drawsOfGivenSeeds() {
        int[][] known = {
            {1, 3, 6, 13, 3, -999580867},
            {0, 0, 16, 16, 5, -698016724},
            {-1, 2, 9, 2, 6, -396452581},
            {Integer.MIN_VALUE, 3, 8, 8, 17, 1449466924},
            {Integer.MAX_VALUE, 4, 17, 10, 18, 1751031067}};
        for (int[] draws : known) {
            HistogramPlans x = new HistogramPlans();
            x.seed(draws[0]);
            Due.is("drawn from " + draws[0], 1, x.drawn(1));
            Due.is("drawn from " + draws[0] + ": one LINE", 1, x.status(0));
            for (int column = 0; column < 3; column++) {
                Due.is("drawn from " + draws[0], draws[2 + column], x.lineOf(draws[1], 0, column));
            }
            Due.is("drawn from " + draws[0] + ": SEED wraps", draws[5], x.status(4));
        }
        HistogramPlans x = new HistogramPlans();
        Due.is("drawn at first", 1, x.drawn(1));
        Due.is("drawn at first: SEED was 1", -999580867, x.status(4));
    }

    /** The SEED without a sign, in a long. */
    private static final class Draws {
        private long seed;

        Draws(int seed) {
            this.seed = seed & 0xffffffffL;
        }

        int below(int n) {
            seed = (seed * 1103515245L + 12345L) % (1L << 32);
            return (int) (seed / 65536L % n);
        }
    }

    private static void drawsStepByStep() {
        for (int start = -6; start < 6; start++) {
            int seed = start * 715827883;
            HistogramPlans x = new HistogramPlans();
            x.seed(seed);
            Draws draws = new Draws(seed);
            int[] lines = new int[5];
            for (int n : new int[] {1, 2, 39, 40}) {
                int came = 0;
                int[][] last = new int[5][];
                for (int i = 0; i < n; i++) {
                    int t = draws.below(5);
                    int[] line = {draws.below(20), draws.below(20), draws.below(20)};
                    if (lines[t] < 16) {
                        lines[t]++;
                        came++;
                        last[t] = line;
                    }
                }
                Due.is("drawn " + n + ": how many came", came, x.drawn(n));
                Due.is("drawn " + n + ": SEED", (int) draws.seed, x.status(4));
                for (int t = 0; t < 5; t++) {
                    Due.is("drawn " + n + ": LINES", lines[t], x.tableOf(t, 0));
                    for (int column = 0; column < 3 && last[t] != null; column++) {
                        Due.is("drawn " + n + ": the last LINE", last[t][column], x.lineOf(t, lines[t] - 1, column));
                    }
                }
            }
        }
    }

    private static void drawnNumbers() {
        for (int n : new int[] {1, 2, 39, 40}) {
            HistogramPlans x = new HistogramPlans();
            Due.is("drawn " + n, n, x.drawn(n));
            Due.is("drawn " + n, n, x.status(0));
        }
    }

    private static void drawnWithoutRoom() {
        HistogramPlans x = crowd(16);
        Due.is("drawn: no room at all", 0, x.drawn(40));
        Due.is("drawn: no room at all", 80, x.status(0));
        Draws draws = new Draws(1);
        for (int i = 0; i < 160; i++) {
            draws.below(5);
        }
        Due.is("drawn: the SEED goes on without room", (int) draws.seed, x.status(4));
        for (int kind = 11; kind <= 17; kind++) {
            Due.is("drawn: no room is no REFUSAL", 0, x.status(kind));
        }
        HistogramPlans y = crowd(16);
        y.empty(3);
        fill(y, 3, 15);
        Due.is("drawn: the last room", 1, y.drawn(1));
        Due.is("drawn: the last room", 6, y.lineOf(3, 15, 0));
        Due.is("drawn: the last room, VALUES", 3, y.lineOf(3, 15, 2));
        y.seed(1);
        Due.is("drawn: no room any more", 0, y.drawn(1));
        Due.is("drawn: the LINE stays", 6, y.lineOf(3, 15, 0));
    }

    private static void drawnRefusals() {
        for (int n : new int[] {0, -1, 41, 42, -40, LEAST, MOST}) {
            refuses("drawn " + n, -6, Bounds::rich, y -> y.drawn(n));
            refuses("drawn " + n + " without room", -6, () -> crowd(16), y -> y.drawn(n));
        }
    }

    private static void seedEdges() {
        HistogramPlans x = new HistogramPlans();
        int was = 1;
        for (int v : new int[] {0, -1, LEAST, MOST, 1, -16, 5}) {
            Due.is("seed: what it was", was, x.seed(v));
            Due.is("seed: what it is", v, x.status(4));
            was = v;
        }
        for (int kind = 11; kind <= 17; kind++) {
            Due.is("seed: nothing is refused", 0, x.status(kind));
        }
        Map<String, Long> want = allOf(rich());
        HistogramPlans y = rich();
        Due.is("seed: what it was", 4242, y.seed(-6));
        want.put("status(4)", -6L);
        Due.is("seed: nothing else changes", 1, want.equals(allOf(y)) ? 1 : 0);
    }

    // ---- promises 36 and 37

    private static void imageOfLines() {
        Due.is("image: of no LINES", 0, blank().image());
        Due.is("image: of one LINE each", 5, crowd(1).image());
        Due.is("image: of all LINES", 80, crowd(16).image());
        HistogramPlans x = crowd(16);
        x.image();
        for (int t = 0; t < 5; t++) {
            x.empty(t);
        }
        Due.is("restore: all LINES", 80, x.restore());
        Due.is("restore: the last VALUE", 3, x.lineOf(4, 15, 2));
        Due.is("restore: the last VALUE but one", 2, x.lineOf(4, 15, 1));
        Due.is("restore: no 17th", -7, x.line(0, 0, 0, 0));
        HistogramPlans y = new HistogramPlans();
        y.image();
        y.line(0, 1, 1, 1);
        Due.is("restore: no LINES", 0, y.restore());
        Due.is("restore: no LINES", 0, y.tableOf(0, 0));
    }

    private static void imageChangesNothing() {
        HistogramPlans x = rich();
        Due.is("image: how many LINES", 7, x.image());
        Map<String, Long> got = allOf(x);
        Map<String, Long> want = allOf(rich());
        for (String key : want.keySet()) {
            if (!key.startsWith("restore")) {
                Due.is("image: leaves " + key, want.get(key), got.getOrDefault(key, -99L));
                String behind = "restored " + key;
                Due.is("image: " + behind, want.get(key), got.containsKey(behind) ? got.get(behind) : want.get(key));
            }
        }
    }

    private static void restoreWithoutImage() {
        refuses("restore: there is none", -6, Bounds::blank, y -> y.restore());
        refuses("restore: there is none, of much", -6, Bounds::full, y -> y.restore());
        HistogramPlans x = new HistogramPlans();
        x.restore();
        x.image();
        Due.is("restore: there is one", 0, x.restore());
        Due.is("restore: there is one still", 0, x.restore());
    }

    private static void restoreBringsAllBack() {
        HistogramPlans x = full();
        x.put(0, 0, 1);
        x.put(0, 1, 2);
        x.put(4, 0, 8);
        x.put(4, 1, 0);
        x.seed(-5);
        Due.is("image", 20, x.image());
        x.put(0, 0, 3);
        x.put(0, 1, NONE);
        x.put(4, 0, 4);
        x.put(4, 1, 1);
        x.clear();
        x.empty(0);
        fill(x, 0, 16);
        for (int i = 0; i < 8; i++) {
            x.filter(14, (i + 1) % 3, 1);
            x.join(14, 11);
        }
        x.drawn(7);
        Due.is("restore", 20, x.restore());
        Due.is("restore: BUCKETS", 1, x.tableOf(0, 1));
        Due.is("restore: STORED", 3, x.tableOf(0, 2));
        Due.is("restore: BUCKETS of the last TABLE", 8, x.tableOf(4, 1));
        Due.is("restore: STORED of the last TABLE", 1, x.tableOf(4, 2));
        Due.is("restore: SEED", -5, x.status(4));
        Due.is("restore: FILTERS", 8, x.status(1));
        Due.is("restore: JOINS", 8, x.status(2));
        for (int i = 0; i < 16; i++) {
            Due.is("restore: LINES", i, x.lineOf(0, i, 0));
            Due.is("restore: LINES", 20 + i, x.lineOf(0, i, 1));
            Due.is("restore: LINES", 40 + i, x.lineOf(0, i, 2));
        }
        for (int i = 0; i < 8; i++) {
            Due.is("restore: FILTER " + i, i, x.filterOf(i, 0));
            Due.is("restore: FILTER " + i, i % 3, x.filterOf(i, 1));
            Due.is("restore: FILTER " + i, 90 + i, x.filterOf(i, 2));
            Due.is("restore: JOIN " + i, i % 3, x.joinOf(i, 0));
            Due.is("restore: JOIN " + i, 3 + i, x.joinOf(i, 1));
        }
        Due.is("restore: no ninth FILTER", -7, x.filter(0, 0, 0));
        Due.is("restore: no ninth JOIN", -7, x.join(0, 3));
    }

    private static void restoreLeavesTheRest() {
        Map<String, Long> before = allOf(rich());
        HistogramPlans x = rich();
        Due.is("restore: how many LINES", 5, x.restore());
        Map<String, Long> behind = allOf(x);
        for (String key : before.keySet()) {
            boolean isOfShelves = key.startsWith("holds") || key.startsWith("says") || key.startsWith("element")
                || key.startsWith("length");
            boolean isOfPlan = key.startsWith("nodeOf") || key.equals("status(3)");
            boolean isOfRefusals = key.startsWith("status(1") && key.length() == 10;
            if (isOfShelves || isOfPlan || isOfRefusals || key.equals("fault()")) {
                Due.is("restore: stays, " + key, before.get(key), behind.get(key));
            }
            if (key.startsWith("restored ")) {
                Due.is("restore: " + key, before.get(key), behind.get(key.substring(9)));
                Due.is("restore: again, " + key, before.get(key), behind.get(key));
            }
        }
    }

    private static void imageStaysAsItWas() {
        HistogramPlans x = rich();
        for (int again = 0; again < 3; again++) {
            Due.is("restore, again " + again, 5, x.restore());
            Due.is("restore: the first VALUE", 1, x.lineOf(0, 0, 0));
            Due.is("restore: FILTERS", 1, x.status(1));
            Due.is("restore: JOINS", 2, x.status(2));
            Due.is("restore: the first FILTER", 0, x.filterOf(0, 0));
            Due.is("restore: the first JOIN", 3, x.joinOf(0, 1));
            Due.is("restore: SEED", -77, x.status(4));
            Due.is("restore: BUCKETS", 2, x.tableOf(0, 1));
            Due.is("restore: STORED", 1, x.tableOf(1, 2));
            x.empty(0);
            x.line(0, 88, 88, 88);
            x.clear();
            x.filter(14, 1, 1);
            x.join(13, 11);
            x.put(0, 0, 7);
            x.put(1, 1, NONE);
            x.drawn(3);
        }
        x.image();
        x.empty(0);
        Due.is("restore: the later IMAGE", 88, x.restore() > 0 ? x.lineOf(0, 0, 0) : -1);
    }

    private static void imagesAreNotMixed() {
        HistogramPlans x = new HistogramPlans();
        x.line(0, 1, 1, 1);
        x.image();
        HistogramPlans y = new HistogramPlans();
        Due.is("restore: another object's IMAGE is none", -6, y.restore());
        y.line(0, 2, 2, 2);
        y.image();
        x.empty(0);
        x.restore();
        Due.is("restore: its own IMAGE", 1, x.lineOf(0, 0, 0));
    }

    // ---- promise 38

    private static void statusCounts() {
        HistogramPlans x = full();
        int[] want = {20, 8, 8, 0, 1};
        for (int what = 0; what < 5; what++) {
            int of = what;
            keeps("status(" + what + ")", want[what], Bounds::full, y -> y.status(of));
        }
        x.plan(1, 2);
        Due.is("status: NODES", 2, x.status(3));
        x.plan(1, NONE);
        Due.is("status: NODES", 1, x.status(3));
        x.plan(17, 20);
        Due.is("status: NODES stay", 1, x.status(3));
        x.empty(0);
        Due.is("status: LINES", 4, x.status(0));
        x.seed(-7);
        Due.is("status: SEED", -7, x.status(4));
        Due.is("status: all LINES", 80, crowd(16).status(0));
    }

    private static void statusOfRefusals() {
        Call[] kinds = {y -> y.empty(5), y -> y.set(4, 0, 0), y -> y.set(5, 0, 0), y -> y.row(0, 0, -1),
            y -> y.lineOf(0, 3, 0), y -> y.thought(0), y -> y.row(0, 0, 161)};
        for (int kind = 1; kind <= 7; kind++) {
            HistogramPlans x = rich();
            int[] was = new int[8];
            for (int k = 1; k <= 7; k++) {
                was[k] = x.status(10 + k);
            }
            for (int times = 1; times <= 40; times++) {
                Due.is("REFUSAL -" + kind, -kind, kinds[kind - 1].on(x));
                Due.is("REFUSAL -" + kind + ", counted", was[kind] + times, x.status(10 + kind));
            }
            for (int k = 1; k <= 7; k++) {
                Due.is("REFUSAL -" + kind + ": others aren't counted", was[k] + (k == kind ? 40 : 0), x.status(10 + k));
            }
        }
        Call[] tenLower = {y -> y.put(5, 0, 1), y -> y.judge(4, 0), y -> y.judge(5, 0), y -> y.judge(0, -1),
            y -> y.put(0, 2, 1), y -> y.cost(0, NONE)};
        for (int kind = 1; kind <= 6; kind++) {
            refuses("REFUSAL -" + (10 + kind) + " is counted as -" + kind, -10 - kind, Bounds::rich, tenLower[kind - 1]);
        }
    }

    private static void statusOfAnother() {
        for (int what : new int[] {-1, 5, 6, 9, 10, 18, 19, 100, LEAST, MOST}) {
            keeps("status(" + what + ")", NONE, Bounds::rich, y -> y.status(what));
        }
    }
}
