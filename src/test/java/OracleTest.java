import java.util.Random;

/** Runs of drawn calls, each answer compared with the Oracle's; the draws are the same each time. */
public final class OracleTest {
    private static final int RUNS = 1500;
    private static final int CALLS = 512;
    private static final String LETTERS = "t:;/,0123456789 x";

    private final Random random;
    private final HistogramPlans x = new HistogramPlans();
    private final Oracle due = new Oracle();
    private final String run;
    private final int most;
    private int calls = 0;

    private OracleTest(int run) {
        this.random = new Random(run);
        this.run = "run " + run;
        this.most = new int[] {3, 10, 25, 100}[run % 4];
    }

    public static void main(String[] args) {
        for (int run = 0; run < RUNS && Due.wrong() == 0; run++) {
            new OracleTest(run).play();
        }
        Due.end("OracleTest");
    }

    private void play() {
        while (calls < CALLS - 60 && Due.wrong() == 0) {
            step(random.nextInt(42));
        }
        for (int what = -1; what < 20; what++) {
            is("status", due.status(what), x.status(what));
        }
        for (int s = 0; s < 8; s++) {
            is("holds", due.holds(s), x.holds(s));
            is("says", due.says(s, 0), x.says(s, 0));
        }
    }

    private void is(String call, long want, long got) {
        calls++;
        Due.is(run + ", call " + calls + ", " + call, want, got);
    }

    // ---- arguments: mostly such as may be, now and then others

    private int upTo(int end) {
        int kind = random.nextInt(60);
        if (kind == 0) return -1;
        if (kind == 1) return end;
        if (kind == 2) return random.nextBoolean() ? Integer.MIN_VALUE : Integer.MAX_VALUE;
        if (kind == 3) return -2;
        return random.nextInt(end);
    }

    private int shelf() {
        return random.nextInt(3) == 0 ? upTo(8) : upTo(3);
    }

    private int value() {
        return random.nextInt(40) == 0 ? upTo(100) : random.nextInt(most);
    }

    private int set() {
        return random.nextInt(4) == 0 ? 31 : upTo(32);
    }

    private int order() {
        return random.nextInt(3) == 0 ? -1 : upTo(15);
    }

    private void step(int kind) {
        if (kind < 14) {
            stepOnShelves(kind);
        } else if (kind < 28) {
            stepOnTables(kind);
        } else {
            stepOnPlans(kind);
        }
    }

    private void stepOnShelves(int kind) {
        int s = shelf();
        int a = random.nextInt(8) == 0 ? upTo(161) : upTo(4);
        int b = upTo(5);
        int c = upTo(5);
        switch (kind) {
            case 0, 1 -> is("row", due.row(s, b % 4, a), x.row(s, b % 4, a));
            case 2 -> is("row", due.row(s, b, a * 100), x.row(s, b, a * 100));
            case 3, 4 -> {
                long v = random.nextBoolean() ? random.nextInt(5) : random.nextLong();
                is("set", due.set(s, a, v), x.set(s, a, v));
            }
            case 5 -> {
                int q = shelf();
                is("copy", due.copy(s, q, a, b, c), x.copy(s, q, a, b, c));
            }
            case 6 -> is("element", due.element(s, a), x.element(s, a));
            case 7 -> is("show", due.show(s, b), x.show(s, b));
            case 8 -> is("holds", due.holds(s), x.holds(s));
            case 9 -> is("says", due.says(s, b), x.says(s, b));
            case 10 -> is("judge", due.judge(s, a), x.judge(s, a));
            case 11 -> tellPlan();
            default -> readText();
        }
    }

    private void tellPlan() {
        int n = Math.max(0, due.status(3) + random.nextInt(3) - 1);
        is("row", due.row(2, 3, n), x.row(2, 3, n));
        int wrongAt = random.nextInt(30);
        for (int i = 0; i < n; i++) {
            long v = i == wrongAt || i >= due.status(3) ? random.nextInt(5) : due.nodeOf(i, 0) + ((long) random.nextInt() << 32);
            is("set", due.set(2, i, v), x.set(2, i, v));
        }
        is("judge", due.judge(2, n), x.judge(2, n));
    }

    private void readText() {
        StringBuilder text = new StringBuilder();
        int items = 1 + random.nextInt(2);
        for (int item = 0; item < items; item++) {
            text.append(item == 0 ? "t" : ";t").append(random.nextInt(5)).append(":");
            int lines = 1 + random.nextInt(2);
            for (int i = 0; i < lines; i++) {
                text.append(i == 0 ? "" : "/").append(random.nextInt(most)).append(",");
                text.append(random.nextInt(most)).append(",").append(random.nextInt(most));
            }
        }
        int spoil = random.nextInt(3 * text.length());
        if (spoil < text.length()) {
            text.setCharAt(spoil, LETTERS.charAt(random.nextInt(LETTERS.length())));
        }
        int length = random.nextInt(8) == 0 ? random.nextInt(text.length()) : text.length();
        int s = random.nextInt(3);
        int sort = random.nextInt(4);
        is("row", due.row(s, sort, length), x.row(s, sort, length));
        for (int i = 0; i < length; i++) {
            is("set", due.set(s, i, text.charAt(i)), x.set(s, i, text.charAt(i)));
        }
        is("read(" + text + ")", due.read(s), x.read(s));
        is("fault of " + text, due.fault(), x.fault());
    }

    private void stepOnTables(int kind) {
        int t = upTo(5);
        int p = upTo(15);
        int a = upTo(3);
        int v = value();
        switch (kind) {
            case 14, 15 -> {
                int b = value();
                int c = value();
                is("line", due.line(t, v, b, c), x.line(t, v, b, c));
            }
            case 16 -> {
                int what = upTo(2);
                is("put", due.put(t, what, upToPut(v)), x.put(t, what, upToPut(v)));
            }
            case 17 -> is("tableOf", due.tableOf(t, a), x.tableOf(t, a));
            case 18 -> is("lineOf", due.lineOf(t, v % 17, a), x.lineOf(t, v % 17, a));
            case 19 -> {
                int what = upTo(4);
                is("bucket", due.bucket(p, v % 8, what), x.bucket(p, v % 8, what));
            }
            case 20 -> is("different", due.different(p), x.different(p));
            case 21 -> is("share", due.share(p, a, v), x.share(p, a, v));
            case 22 -> is("filter", due.filter(p, a, v), x.filter(p, a, v));
            case 23, 24 -> {
                int other = upTo(15);
                is("join", due.join(p, other), x.join(p, other));
            }
            case 25 -> {
                int f = upTo(8);
                is("filterOf", due.filterOf(f, a), x.filterOf(f, a));
                is("joinOf", due.joinOf(f, a), x.joinOf(f, a));
                is("joinShare", due.joinShare(f), x.joinShare(f));
            }
            case 26 -> {
                if (random.nextInt(6) == 0) {
                    is("empty", due.empty(t), x.empty(t));
                }
                if (random.nextInt(6) == 0) {
                    is("clear", due.clear(), x.clear());
                }
            }
            default -> {
                int n = random.nextInt(6) == 0 ? upTo(41) : 1 + random.nextInt(5);
                is("drawn", due.drawn(n), x.drawn(n));
            }
        }
    }

    private static int upToPut(int v) {
        return v % 11 - 2;
    }

    private void stepOnPlans(int kind) {
        int set = set();
        int order = order();
        switch (kind) {
            case 28 -> is("thought", due.thought(set), x.thought(set));
            case 29 -> is("sorting", due.sorting(set), x.sorting(set));
            case 30, 31 -> is("cost", due.cost(set, order), x.cost(set, order));
            case 32, 33, 34 -> {
                is("plan", due.plan(set, order), x.plan(set, order));
                int i = upTo(9);
                for (int what = -1; what < 7; what++) {
                    is("nodeOf(" + i + ", " + what + ")", due.nodeOf(i, what), x.nodeOf(i, what));
                }
            }
            case 35 -> is("really", due.really(set), x.really(set));
            case 36 -> is("sum", due.sum(set, order), x.sum(set, order));
            case 37 -> is("wrongBy", due.wrongBy(set), x.wrongBy(set));
            case 38 -> {
                int v = random.nextInt();
                is("seed", due.seed(v), x.seed(v));
            }
            case 39 -> is("image", due.image(), x.image());
            case 40 -> is("restore", due.restore(), x.restore());
            default -> {
                int what = upTo(19);
                is("status", due.status(what), x.status(what));
            }
        }
    }
}
