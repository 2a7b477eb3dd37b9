import java.util.ArrayList;
import java.util.Arrays;
import java.util.HashMap;
import java.util.List;
import java.util.Map;
import java.util.regex.Matcher;
import java.util.regex.Pattern;

/**
 * The document once more, written straight from its sentences with the whole Java library and without
 * a thought for speed, to compare the program with.
 */
final class Oracle {
    private static final String VALUE = "[0-9]{1,2}";
    private static final String LINE = VALUE + "," + VALUE + "," + VALUE;
    private static final String ITEM = "t[0-4]:" + LINE + "(/" + LINE + ")*";
    private static final Pattern TEXT = Pattern.compile(ITEM + "(;" + ITEM + ")*");

    private static final class State {
        final List<List<int[]>> tables = new ArrayList<>();
        final int[] buckets = {4, 4, 4, 4, 4};
        final int[] stored = {-1, -1, -1, -1, -1};
        final List<int[]> filters = new ArrayList<>();
        final List<int[]> joins = new ArrayList<>();
        int seed = 1;

        State() {
            for (int t = 0; t < 5; t++) {
                tables.add(new ArrayList<>());
            }
        }

        State copied() {
            State s = new State();
            for (int t = 0; t < 5; t++) {
                s.tables.get(t).addAll(tables.get(t));
                s.buckets[t] = buckets[t];
                s.stored[t] = stored[t];
            }
            s.filters.addAll(filters);
            s.joins.addAll(joins);
            s.seed = seed;
            return s;
        }

        int lines() {
            return tables.stream().mapToInt(List::size).sum();
        }
    }

    private static final class Row {
        final int sort;
        final long[] elements;

        Row(int sort, int n) {
            this.sort = sort;
            this.elements = new long[n];
        }
    }

    /** A way to come by a set and an order; with its parts it is a tree. */
    private record Tree(int way, int set, int order, float cost, int j, int placeInB, List<Tree> parts) {
        List<Tree> nodes() {
            List<Tree> all = new ArrayList<>();
            all.add(this);
            for (Tree part : parts) {
                all.addAll(part.nodes());
            }
            return all;
        }
    }

    private record Bucket(int low, int high, int count, int distinct) {
    }

    private State now = new State();
    private State image = null;
    private final Object[] shelves = new Object[8];
    private List<Tree> plan = List.of();
    private int fault = -1;
    private final int[] refusals = new int[8];
    private final Map<Integer, Tree> found = new HashMap<>();

    private int no(int number) {
        refusals[number < -10 ? -number - 10 : -number]++;
        return number;
    }

    private static boolean in(int v, int from, int to) {
        return from <= v && v <= to;
    }

    // ---- shelves

    int row(int s, int sort, int n) {
        if (!in(s, 0, 7)) return no(-1);
        if (n < 0) return no(-4);
        if (!in(sort, 0, 3)) return no(-6);
        if (n > 160) return no(-7);
        shelves[s] = new Row(sort, n);
        return 1;
    }

    private int rowless(int s) {
        if (!in(s, 0, 7)) return -1;
        if (shelves[s] instanceof Tree) return -2;
        return shelves[s] == null ? -3 : 0;
    }

    int set(int s, int i, long v) {
        if (rowless(s) != 0) return no(rowless(s));
        Row row = (Row) shelves[s];
        if (!in(i, 0, row.elements.length - 1)) return no(-5);
        int left = 64 - (8 << row.sort);
        row.elements[i] = v << left >> left;
        return 1;
    }

    int copy(int p, int q, int i, int j, int n) {
        if (!in(p, 0, 7) || !in(q, 0, 7)) return no(-1);
        if (shelves[p] instanceof Tree || shelves[q] instanceof Tree) return no(-2);
        if (shelves[p] instanceof Row a && shelves[q] instanceof Row b && a.sort != b.sort) return no(-2);
        if (shelves[p] == null || shelves[q] == null) return no(-3);
        if (n < 0) return no(-4);
        long[] from = ((Row) shelves[p]).elements.clone();
        long[] to = ((Row) shelves[q]).elements;
        if (i < 0 || j < 0 || (long) i + n > from.length || (long) j + n > to.length) return no(-5);
        for (int k = 0; k < n; k++) {
            to[j + k] = from[i + k];
        }
        return 1;
    }

    long element(int s, int i) {
        return rowless(s) == 0 && in(i, 0, ((Row) shelves[s]).elements.length - 1) ? ((Row) shelves[s]).elements[i] : 0;
    }

    int show(int s, int node) {
        if (!in(s, 0, 7) || !in(node, -1, plan.size() - 1)) return no(-1);
        shelves[s] = node < 0 ? null : plan.get(node);
        return node < 0 ? 0 : 1;
    }

    int holds(int s) {
        if (!in(s, 0, 7) || shelves[s] == null) return -1;
        return shelves[s] instanceof Tree tree ? 200 + tree.way : 100 + ((Row) shelves[s]).sort;
    }

    int says(int s, int as) {
        if (!in(s, 0, 7) || !in(as, 0, 4)) return no(-1);
        if (shelves[s] instanceof Row) return no(-2);
        if (shelves[s] == null) return no(-3);
        Tree tree = (Tree) shelves[s];
        if (as == 0) return Float.floatToIntBits(tree.cost);
        String sorts = List.of("1", "2", "2", "23", "4").get(tree.way);
        if (sorts.indexOf('0' + as) < 0) return no(-2);
        return as == 1 ? Integer.numberOfTrailingZeros(tree.set) : as == 2 ? tree.j : as == 3 ? tree.placeInB : tree.order;
    }

    // ---- tables

    int line(int t, int a, int b, int c) {
        if (!in(t, 0, 4)) return no(-1);
        if (!in(a, 0, 99) || !in(b, 0, 99) || !in(c, 0, 99)) return no(-6);
        if (now.tables.get(t).size() == 16) return no(-7);
        now.tables.get(t).add(new int[] {a, b, c});
        return now.tables.get(t).size() - 1;
    }

    /** The first place behind which no text of the kind can go on; what there is no room for is looked at apart. */
    int read(int s) {
        if (rowless(s) != 0) return no(rowless(s));
        StringBuilder letters = new StringBuilder();
        for (long element : ((Row) shelves[s]).elements) {
            int sign = (int) element;
            letters.append(in(sign, 0, 127) ? (char) sign : '?');
        }
        String text = letters.toString();
        int good = 0;
        while (good < text.length() && mayGoOn(text.substring(0, good + 1))) {
            good++;
        }
        int crowded = firstWithoutRoom(text.substring(0, good));
        boolean ended = good == text.length() && TEXT.matcher(text).matches();
        fault = crowded >= 0 ? crowded : ended ? -1 : good;
        if (fault != -1) return no(-6);
        for (String item : text.split(";")) {
            for (String line : item.substring(3).split("/")) {
                now.tables.get(item.charAt(1) - '0').add(Arrays.stream(line.split(",")).mapToInt(Integer::parseInt).toArray());
            }
        }
        return text.split(";").length;
    }

    private static boolean mayGoOn(String head) {
        Matcher matcher = TEXT.matcher(head);
        return matcher.matches() || matcher.hitEnd();
    }

    private int firstWithoutRoom(String head) {
        int[] sizes = new int[5];
        for (int t = 0; t < 5; t++) {
            sizes[t] = now.tables.get(t).size();
        }
        int table = 0;
        for (int i = 0; i < head.length(); i++) {
            if (i > 0 && head.charAt(i - 1) == 't') {
                table = head.charAt(i) - '0';
            } else if (i > 0 && (head.charAt(i - 1) == ':' || head.charAt(i - 1) == '/')) {
                sizes[table]++;
                if (sizes[table] > 16) return i;
            }
        }
        return -1;
    }

    int fault() {
        return fault;
    }

    int empty(int t) {
        if (!in(t, 0, 4)) return no(-1);
        int had = now.tables.get(t).size();
        now.tables.get(t).clear();
        return had;
    }

    int put(int t, int what, int v) {
        if (!in(t, 0, 4)) return no(-11);
        if (!in(what, 0, 1)) return no(-15);
        if (what == 0 ? !in(v, 1, 8) : !in(v, -1, 2)) return no(-16);
        int[] kept = what == 0 ? now.buckets : now.stored;
        int was = kept[t];
        kept[t] = v;
        return was;
    }

    int tableOf(int t, int what) {
        if (!in(t, 0, 4)) return no(-1);
        if (!in(what, 0, 2)) return no(-5);
        return List.of(now.tables.get(t).size(), now.buckets[t], now.stored[t] + 1).get(what);
    }

    int lineOf(int t, int i, int column) {
        if (!in(t, 0, 4)) return no(-1);
        if (!in(i, 0, now.tables.get(t).size() - 1) || !in(column, 0, 2)) return no(-5);
        return now.tables.get(t).get(i)[column];
    }

    private int[] valuesAt(int place) {
        return now.tables.get(place / 3).stream().mapToInt(line -> line[place % 3]).sorted().toArray();
    }

    private List<Bucket> bucketsOf(int place) {
        int[] values = valuesAt(place);
        int parts = now.buckets[place / 3];
        List<Bucket> buckets = new ArrayList<>();
        for (int k = 0; k < parts; k++) {
            int[] part = Arrays.copyOfRange(values, k * values.length / parts, (k + 1) * values.length / parts);
            if (part.length > 0) {
                int distinct = (int) Arrays.stream(part).distinct().count();
                buckets.add(new Bucket(part[0], part[part.length - 1], part.length, distinct));
            }
        }
        return buckets;
    }

    int bucket(int place, int k, int what) {
        if (!in(place, 0, 14)) return no(-1);
        List<Bucket> buckets = bucketsOf(place);
        if (!in(k, 0, buckets.size() - 1) || !in(what, 0, 3)) return no(-5);
        Bucket b = buckets.get(k);
        return List.of(b.low, b.high, b.count, b.distinct).get(what);
    }

    int different(int place) {
        return in(place, 0, 14) ? (int) Arrays.stream(valuesAt(place)).distinct().count() : no(-1);
    }

    // ---- shares, filters, joins

    private float shareOf(int place, int sign, int v) {
        int n = now.tables.get(place / 3).size();
        if (n == 0) return 0;
        float less = 0;
        float equal = 0;
        for (Bucket b : bucketsOf(place)) {
            if (v > b.high) {
                less += b.count;
            } else if (v > b.low) {
                float part = (float) (v - b.low) / (float) (b.high - b.low + 1);
                less += b.count * part;
            }
            if (in(v, b.low, b.high)) {
                equal += (float) b.count / (float) b.distinct;
            }
        }
        less /= n;
        equal /= n;
        return sign == 0 ? less : sign == 1 ? equal : Math.max(0f, 1f - (less + equal));
    }

    int share(int place, int sign, int v) {
        if (!in(place, 0, 14)) return no(-11);
        if (!in(sign, 0, 2) || !in(v, 0, 99)) return no(-16);
        return Float.floatToIntBits(shareOf(place, sign, v));
    }

    int filter(int place, int sign, int v) {
        if (!in(place, 0, 14)) return no(-1);
        if (!in(sign, 0, 2) || !in(v, 0, 99)) return no(-6);
        if (now.filters.size() == 8) return no(-7);
        now.filters.add(new int[] {place, sign, v});
        return now.filters.size() - 1;
    }

    int join(int place, int other) {
        if (!in(place, 0, 14) || !in(other, 0, 14)) return no(-1);
        if (place / 3 == other / 3) return no(-6);
        if (now.joins.size() == 8) return no(-7);
        now.joins.add(place / 3 < other / 3 ? new int[] {place, other} : new int[] {other, place});
        return now.joins.size() - 1;
    }

    int clear() {
        int had = now.filters.size() + now.joins.size();
        now.filters.clear();
        now.joins.clear();
        return had;
    }

    int filterOf(int f, int what) {
        return in(f, 0, now.filters.size() - 1) && in(what, 0, 2) ? now.filters.get(f)[what] : no(-5);
    }

    int joinOf(int j, int what) {
        return in(j, 0, now.joins.size() - 1) && in(what, 0, 1) ? now.joins.get(j)[what] : no(-5);
    }

    private float shareOfJoin(int j) {
        long most = 0;
        for (int place : now.joins.get(j)) {
            most = Math.max(most, Arrays.stream(valuesAt(place)).distinct().count());
        }
        return most == 0 ? 0f : 1f / most;
    }

    int joinShare(int j) {
        return in(j, 0, now.joins.size() - 1) ? Float.floatToIntBits(shareOfJoin(j)) : no(-1);
    }

    private static boolean has(int set, int place) {
        return (set & 1 << place / 3) != 0;
    }

    private float thoughtOf(int set) {
        float all = 1f;
        for (int t = 0; t < 5; t++) {
            if ((set & 1 << t) != 0) {
                float one = now.tables.get(t).size();
                for (int[] f : now.filters) {
                    one = f[0] / 3 == t ? one * shareOf(f[0], f[1], f[2]) : one;
                }
                all *= one;
            }
        }
        for (int j = 0; j < now.joins.size(); j++) {
            if (has(set, now.joins.get(j)[0]) && has(set, now.joins.get(j)[1])) {
                all *= shareOfJoin(j);
            }
        }
        return all;
    }

    int thought(int set) {
        return in(set, 1, 31) ? Float.floatToIntBits(thoughtOf(set)) : no(-6);
    }

    private float sortingOf(int set) {
        int whole = (int) thoughtOf(set);
        return thoughtOf(set) * (whole == 0 ? 0 : Integer.toBinaryString(whole).length());
    }

    int sorting(int set) {
        return in(set, 1, 31) ? Float.floatToIntBits(sortingOf(set)) : no(-6);
    }

    // ---- plans

    /** The first of least cost, or null. */
    private Tree best(int set, int order) {
        int key = set * 100 + order;
        if (!found.containsKey(key)) {
            Tree least = null;
            for (Tree way : waysOf(set, order)) {
                least = least == null || way.cost < least.cost ? way : least;
            }
            found.put(key, least);
        }
        return found.get(key);
    }

    private List<Tree> waysOf(int set, int order) {
        List<Tree> ways = new ArrayList<>();
        if (Integer.bitCount(set) == 1) {
            int t = Integer.numberOfTrailingZeros(set);
            if (order == -1 || (now.stored[t] >= 0 && order == 3 * t + now.stored[t])) {
                ways.add(new Tree(0, set, order, now.tables.get(t).size(), -1, -1, List.of()));
            }
        }
        for (int a = 1; a < set; a++) {
            if ((a & ~set) == 0) {
                addPairs(ways, a, set - a, order);
            }
        }
        if (order != -1 && has(set, order) && best(set, -1) != null) {
            ways.add(new Tree(4, set, order, best(set, -1).cost + sortingOf(set), -1, -1, List.of(best(set, -1))));
        }
        return ways;
    }

    private void addPairs(List<Tree> ways, int a, int b, int order) {
        for (int j = 0; j < now.joins.size(); j++) {
            int[] places = now.joins.get(j);
            boolean straight = has(a, places[0]) && has(b, places[1]);
            if (straight || (has(a, places[1]) && has(b, places[0]))) {
                addPair(ways, a, b, order, j, straight ? places[0] : places[1], straight ? places[1] : places[0]);
                return;
            }
        }
    }

    private void addPair(List<Tree> ways, int a, int b, int order, int j, int inA, int inB) {
        int set = a | b;
        float ta = thoughtOf(a);
        float tb = thoughtOf(b);
        float ts = thoughtOf(set);
        Tree anyA = best(a, -1);
        Tree anyB = best(b, -1);
        if (order == -1 && anyA != null && anyB != null) {
            ways.add(new Tree(1, set, order, (anyA.cost + anyB.cost) + ((ta + 2 * tb) + ts), j, inB, List.of(anyA, anyB)));
        }
        if (order == -1 || has(a, order)) {
            Tree asWanted = best(a, order);
            if (asWanted != null && anyB != null) {
                ways.add(new Tree(2, set, order, asWanted.cost + (ta * anyB.cost), j, inB, List.of(asWanted, anyB)));
            }
        }
        if (order == -1 || order == inA) {
            Tree byA = best(a, inA);
            Tree byB = best(b, inB);
            if (byA != null && byB != null) {
                ways.add(new Tree(3, set, order, (byA.cost + byB.cost) + ((ta + tb) + ts), j, inB, List.of(byA, byB)));
            }
        }
    }

    int cost(int set, int order) {
        if (!in(set, 1, 31) || !in(order, -1, 14)) return no(-16);
        found.clear();
        return best(set, order) == null ? -1 : Float.floatToIntBits(best(set, order).cost);
    }

    int plan(int set, int order) {
        if (!in(set, 1, 31) || !in(order, -1, 14)) return no(-6);
        found.clear();
        if (best(set, order) == null) return no(-5);
        plan = best(set, order).nodes();
        return plan.size();
    }

    int nodeOf(int i, int what) {
        if (!in(i, 0, plan.size() - 1) || !in(what, 0, 5)) return no(-5);
        Tree n = plan.get(i);
        return List.of(n.way, n.set, n.order + 1, Float.floatToIntBits(n.cost), n.j + 1, n.nodes().size()).get(what);
    }

    // ---- what really comes

    /** All rows of a set, each with a line (or null) of each table; null: too many. */
    private List<int[][]> rowsOf(int set) {
        List<int[][]> rows = new ArrayList<>();
        rows.add(new int[5][]);
        for (int t = 0; t < 5; t++) {
            if ((set & 1 << t) != 0) {
                List<int[][]> longer = new ArrayList<>();
                for (int[][] row : rows) {
                    for (int[] line : now.tables.get(t)) {
                        int[][] next = row.clone();
                        next[t] = line;
                        if (passes(next, t)) longer.add(next);
                    }
                }
                rows = longer;
            }
        }
        return rows.size() > 100000 ? null : rows;
    }

    private boolean passes(int[][] row, int t) {
        for (int[] f : now.filters) {
            if (f[0] / 3 == t && Integer.signum(row[t][f[0] % 3] - f[2]) != List.of(-1, 0, 1).get(f[1])) return false;
        }
        for (int[] j : now.joins) {
            int[] one = row[j[0] / 3];
            int[] two = row[j[1] / 3];
            if (one != null && two != null && one[j[0] % 3] != two[j[1] % 3]) return false;
        }
        return true;
    }

    int really(int set) {
        if (!in(set, 1, 31)) return no(-6);
        List<int[][]> rows = rowsOf(set);
        return rows == null ? no(-5) : rows.size();
    }

    long sum(int set, int place) {
        if (!in(place, 0, 14)) return no(-1);
        List<int[][]> rows = in(set, 1, 31) ? rowsOf(set) : List.of();
        if (rows == null) return no(-5);
        if (!in(set, 1, 31) || !has(set, place)) return no(-6);
        return rows.stream().mapToLong(row -> row[place / 3][place % 3]).sum();
    }

    int wrongBy(int set) {
        if (!in(set, 1, 31)) return no(-6);
        List<int[][]> rows = rowsOf(set);
        if (rows == null) return no(-5);
        float thought = thoughtOf(set);
        float really = rows.size();
        float wrong = thought == 0 && really == 0 ? 1 : thought == 0 || really == 0 ? 0
            : Math.max(thought / really, really / thought);
        return Float.floatToIntBits(wrong);
    }

    int judge(int s, int n) {
        if (rowless(s) != 0) return no(rowless(s) - 10);
        long[] told = ((Row) shelves[s]).elements;
        if (n < 0) return no(-14);
        if (n > told.length || plan.isEmpty()) return no(-15);
        if (n > 40) return no(-16);
        for (int i = 0; i < n; i++) {
            if (i >= plan.size() || (int) told[i] != plan.get(i).way) return i;
        }
        return plan.size() > n ? n : -1;
    }

    // ---- draws, image, status

    private int draw(int n) {
        now.seed = now.seed * 1103515245 + 12345;
        return (int) ((now.seed & 0xffffffffL) / 65536 % n);
    }

    int drawn(int n) {
        if (!in(n, 1, 40)) return no(-6);
        int before = now.lines();
        for (int i = 0; i < n; i++) {
            List<int[]> table = now.tables.get(draw(5));
            int[] line = {draw(20), draw(20), draw(20)};
            if (table.size() < 16) table.add(line);
        }
        return now.lines() - before;
    }

    int seed(int v) {
        int was = now.seed;
        now.seed = v;
        return was;
    }

    int image() {
        image = now.copied();
        return now.lines();
    }

    int restore() {
        if (image == null) return no(-6);
        now = image.copied();
        return now.lines();
    }

    int status(int what) {
        if (in(what, 11, 17)) return refusals[what - 10];
        return in(what, 0, 4)
            ? List.of(now.lines(), now.filters.size(), now.joins.size(), plan.size(), now.seed).get(what) : -1;
    }
}
