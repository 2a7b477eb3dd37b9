import java.util.regex.Matcher;
import java.util.regex.Pattern;

/** The edges of promises 10 and 11: TEXTS and their FAULTS. */
public final class TextBoundsTest extends Bounds {
    private static final String VALUE = "[0-9]{1,2}";
    private static final String LINE = VALUE + "," + VALUE + "," + VALUE;
    private static final String ITEM = "t[0-4]:" + LINE + "(/" + LINE + ")*";
    private static final Pattern TEXT = Pattern.compile(ITEM + "(;" + ITEM + ")*");

    public static void main(String[] args) {
        itemsAreCounted();
        linesComeBehind();
        tableNumbers();
        valueDigits();
        threeValues();
        noBlanks();
        endsTooEarly();
        everySignAtEveryPlace();
        longestTexts();
        roomForLines();
        roomIsJudgedAtTheFirstDigit();
        roomByEarlierItems();
        allOrNothing();
        elementsAsInts();
        readRefusals();
        faultOfTheLatestRead();
        Due.end("TextBoundsTest");
    }

    /** SHELF 5 of a rich object holds the TEXT. */
    private static State holding(String text) {
        return () -> {
            HistogramPlans x = rich();
            text(x, 5, 0, text);
            return x;
        };
    }

    private static void fault(String text, int place) {
        failsAt("read " + text, place, holding(text), y -> y.read(5));
    }

    private static HistogramPlans read(String text, int items) {
        HistogramPlans x = new HistogramPlans();
        text(x, 0, 0, text);
        Due.is("read " + text, items, x.read(0));
        Due.is("read " + text + ": no FAULT", NONE, x.fault());
        return x;
    }

    private static void itemsAreCounted() {
        Due.is("one ITEM, one LINE", 1, read("t0:1,2,3", 1).status(0));
        Due.is("one ITEM, two LINES", 2, read("t0:1,2,3/4,5,6", 1).status(0));
        Due.is("two ITEMS", 2, read("t0:1,2,3;t4:4,5,6", 2).status(0));
        Due.is("two ITEMS of one TABLE", 2, read("t0:1,2,3;t0:4,5,6", 2).tableOf(0, 0));
        StringBuilder text = new StringBuilder("t0:1,1,1");
        for (int item = 1; item < 17; item++) {
            text.append(";t").append(item % 5).append(":1,1,1");
        }
        Due.is("17 ITEMS", 17, read(text.toString(), 17).status(0));
    }

    private static void linesComeBehind() {
        HistogramPlans x = new HistogramPlans();
        x.line(3, 90, 91, 92);
        text(x, 0, 1, "t3:1,02,3/40,5,66;t1:7,8,9;t3:0,00,99");
        Due.is("read: ITEMS", 3, x.read(0));
        int[] want = {90, 91, 92, 1, 2, 3, 40, 5, 66, 0, 0, 99};
        Due.is("read: behind what the TABLE has", 4, x.tableOf(3, 0));
        for (int i = 0; i < 12; i++) {
            Due.is("read: behind what the TABLE has", want[i], x.lineOf(3, i / 3, i % 3));
        }
        Due.is("read: the other TABLE", 1, x.tableOf(1, 0));
        Due.is("read: the other TABLE", 9, x.lineOf(1, 0, 2));
        Due.is("read: the ROW stays", 't', x.element(0, 0));
        Due.is("read again", 3, x.read(0));
        Due.is("read again", 7, x.tableOf(3, 0));
    }

    private static void tableNumbers() {
        for (int t = 0; t < 5; t++) {
            Due.is("N " + t, 1, read("t" + t + ":9,9,9", 1).tableOf(t, 0));
        }
        fault("t5:1,2,3", 1);
        fault("t9:1,2,3", 1);
        fault("t/:1,2,3", 1);
        fault("t::1,2,3", 1);
        fault("tt:1,2,3", 1);
        fault("t-1:1,2,3", 1);
        fault("t00:1,2,3", 2);
        fault("t10:1,2,3", 2);
        fault("t1,1,2,3", 2);
        fault("T1:1,2,3", 0);
        fault("s1:1,2,3", 0);
        fault("u1:1,2,3", 0);
        fault("1:1,2,3", 0);
        fault("t1:1,2,3;t5:1,2,3", 10);
        fault("t1:1,2,3;1:1,2,3", 9);
    }

    private static void valueDigits() {
        String[] values = {"0", "1", "9", "00", "01", "09", "10", "90", "99"};
        for (String v : values) {
            for (int column = 0; column < 3; column++) {
                String text = column == 0 ? "t2:" + v + ",5,5" : column == 1 ? "t2:5," + v + ",5" : "t2:5,5," + v;
                HistogramPlans x = read(text, 1);
                for (int other = 0; other < 3; other++) {
                    Due.is(text, other == column ? Integer.parseInt(v) : 5, x.lineOf(2, 0, other));
                }
            }
        }
        fault("t2:100,5,5", 5);
        fault("t2:000,5,5", 5);
        fault("t2:5,100,5", 7);
        fault("t2:5,5,100", 9);
        fault("t2:5,5,010", 9);
        fault("t2:,5,5", 3);
        fault("t2:5,,5", 5);
        fault("t2:5,5,/1,1,1", 7);
        fault("t2:-5,5,5", 3);
        fault("t2:/,5,5", 3);
        fault("t2::,5,5", 3);
        fault("t2:5/,5,5", 4);
        fault("t2:5:,5,5", 4);
        fault("t2:5,5,5:", 8);
        fault("t2:5,5,5.", 8);
    }

    private static void threeValues() {
        fault("t2:1/1,1,1", 4);
        fault("t2:1,2/1,1,1", 6);
        fault("t2:1,22;t1:1,1,1", 7);
        fault("t2:1;t1:1,1,1", 4);
        fault("t2:1,2,3,4", 8);
        fault("t2:1,2,33,4", 9);
        fault("t2:1,2,3/4,5,6,7", 14);
        fault("t2:1,2,3//4,5,6", 9);
        fault("t2:1,2,3/;t1:1,1,1", 9);
        fault("t2:1,2,3;;t1:1,1,1", 9);
        fault("t2:;t1:1,1,1", 3);
        fault(";t1:1,1,1", 0);
    }

    private static void noBlanks() {
        String text = "t2:1,22,3/4,5,66;t0:7,8,9";
        for (int i = 0; i <= text.length(); i++) {
            fault(text.substring(0, i) + " " + text.substring(i), i);
        }
    }

    /** Of all heads of a TEXT those that are none themselves tell how many elements they have. */
    private static void endsTooEarly() {
        String text = "t1:12,3,45/6,78,9;t0:1,2,3";
        for (int n = 0; n <= text.length(); n++) {
            String head = text.substring(0, n);
            boolean isWhole = n == 9 || n == 10 || n == 17 || n == 26;
            if (isWhole) {
                read(head, n == 26 ? 2 : 1);
            } else {
                fault(head, n);
            }
        }
        failsAt("read: a ROW of no elements", 0, Bounds::rich, y -> y.read(7));
    }

    private static void everySignAtEveryPlace() {
        String text = "t1:12,3,45/6,78,9;t0:1,2,3";
        for (int place = 0; place <= text.length(); place++) {
            for (int sign = -128; sign < 384; sign++) {
                HistogramPlans x = new HistogramPlans();
                String head = text.substring(0, place);
                text(x, 0, 2, head + "x");
                x.set(0, place, sign);
                boolean isLetter = sign >= 0 && sign < 128;
                String told = head + (isLetter ? (char) sign : 'x');
                Matcher matcher = TEXT.matcher(told);
                boolean isWhole = isLetter && matcher.matches();
                int want = isWhole ? NONE : isLetter && matcher.hitEnd() ? place + 1 : place;
                int items = (int) told.chars().filter(c -> c == ';').count() + 1;
                Due.is(head + " and the sign " + sign, isWhole ? items : -6, x.read(0));
                Due.is(head + " and the sign " + sign + ": FAULT", want, x.fault());
            }
        }
    }

    private static String lines(String line, int n) {
        StringBuilder text = new StringBuilder(line);
        for (int i = 1; i < n; i++) {
            text.append('/').append(line);
        }
        return text.toString();
    }

    private static void longestTexts() {
        String most = "t0:" + lines("10,11,12", 15) + "/1,22,33;t4:1,2,3/4,5,6";
        Due.is("a TEXT of 160 elements", 160, most.length());
        HistogramPlans x = read(most, 2);
        Due.is("a TEXT of 160 elements", 6, x.lineOf(4, 1, 2));
        Due.is("a TEXT of 160 elements", 33, x.lineOf(0, 15, 2));
        String lastIsWrong = most.substring(0, 159) + ",";
        failsAt("160 elements, the last is wrong", 159, () -> holding(0, lastIsWrong), y -> y.read(0));
        String tooEarly = "t0:" + lines("10,11,12", 15) + "/1,2,3;t4:10,20,30/4,5,";
        Due.is("160 elements that end too early", 160, tooEarly.length());
        failsAt("160 elements that end too early", 160, () -> holding(0, tooEarly), y -> y.read(0));
    }

    private static HistogramPlans holding(int lines, String text) {
        HistogramPlans x = new HistogramPlans();
        fill(x, 2, lines);
        text(x, 0, 0, text);
        return x;
    }

    private static void roomForLines() {
        for (int had = 0; had < 16; had++) {
            HistogramPlans x = holding(had, "t2:" + lines("1,2,3", 16 - had));
            Due.is("read: up to 16 LINES", 1, x.read(0));
            Due.is("read: up to 16 LINES", 16, x.tableOf(2, 0));
            Due.is("read: up to 16 LINES", 3, x.lineOf(2, 15, 2));
        }
        for (int had = 0; had <= 16; had++) {
            int lines = had;
            String text = "t2:" + lines("1,2,3", 17 - had);
            failsAt("read: a 17th LINE behind " + had, 3 + 6 * (16 - had), () -> holding(lines, text), y -> y.read(0));
        }
        HistogramPlans x = holding(16, "t1:1,2,3");
        Due.is("read: another TABLE has room", 1, x.read(0));
        x.empty(2);
        text(x, 0, 0, "t2:1,2,3");
        Due.is("read: room again", 1, x.read(0));
    }

    private static void roomIsJudgedAtTheFirstDigit() {
        String[] texts = {"t2:9,9,9", "t2:9", "t2:99,", "t2:9,x", "t2:x", "t2:", "t2:,", "t2:/"};
        for (String text : texts) {
            failsAt("read without room: " + text, 3, () -> holding(16, text), y -> y.read(0));
        }
        String[] behind = {"t2:1,1,1/9,9,9", "t2:1,1,1/9", "t2:1,1,1/x", "t2:1,1,1/"};
        for (String text : behind) {
            failsAt("read with room for one: " + text, 9, () -> holding(15, text), y -> y.read(0));
        }
        failsAt("read without room: earlier ones first", 1, () -> holding(16, "tx:1,1,1"), y -> y.read(0));
        failsAt("read without room: earlier ones first", 2, () -> holding(16, "t2;1,1,1"), y -> y.read(0));
        failsAt("read without room: later ones behind", 3, () -> holding(16, "t2:1,1,1;x"), y -> y.read(0));
        Due.is("read with room for one: two digits each", 1, holding(15, "t2:10,20,30").read(0));
    }

    private static void roomByEarlierItems() {
        Due.is("two ITEMS, room for two", 2, holding(14, "t2:1,1,1;t2:1,1,1").read(0));
        failsAt("two ITEMS, room for one", 12, () -> holding(15, "t2:1,1,1;t2:1,1,1"), y -> y.read(0));
        failsAt("three ITEMS, room for one", 21, () -> holding(15, "t2:1,1,1;t3:1,1,1;t2:1,1,1"), y -> y.read(0));
        Due.is("three ITEMS, room for two", 3, holding(14, "t2:1,1,1;t3:1,1,1;t2:1,1,1").read(0));
        failsAt("three ITEMS, room for two", 27, () -> holding(14, "t2:1,1,1;t3:1,1,1;t2:1,1,1/2,2,2"), y -> y.read(0));
    }

    private static void allOrNothing() {
        HistogramPlans x = holding(15, "t2:1,1,1;t3:1,1,1;t2:1,1,1");
        Due.is("a FAULT at the end", -6, x.read(0));
        Due.is("a FAULT at the end: nothing came", 15, x.status(0));
        text(x, 0, 0, "t2:7,8,9");
        Due.is("room is as it was", 1, x.read(0));
        Due.is("a LINE behind the others", 7, x.lineOf(2, 15, 0));
        fault("t2:1,1,1;t3:1,1,1/2,2,2;t4:1,1,1;", 33);
        fault("t2:1,1,1;t3:1,1,1/2,2,2;t4:1,1,1/0,1", 36);
    }

    private static void elementsAsInts() {
        String text = "t0:1,2,3";
        for (int sort = 0; sort < 4; sort++) {
            HistogramPlans x = new HistogramPlans();
            text(x, 0, sort, text);
            Due.is("read from SORT " + sort, 1, x.read(0));
            for (int i = 0; i < text.length(); i++) {
                x.set(0, i, text.charAt(i) + (256L << 8 * i));
            }
            Due.is("read from SORT " + sort + ", more bits", sort == 0 ? 1 : -6, x.read(0));
            Due.is("read from SORT " + sort + ", more bits", sort == 0 ? NONE : 0, x.fault());
        }
        long[] more = {1L << 32, -1L << 32, 1L << 63, 5L << 40};
        for (long bits : more) {
            HistogramPlans x = new HistogramPlans();
            x.row(0, 3, text.length());
            for (int i = 0; i < text.length(); i++) {
                x.set(0, i, text.charAt(i) | bits);
            }
            Due.is("read: of longs the lowest 32 bits", 1, x.read(0));
            Due.is("read: the long stays", 't' | bits, x.element(0, 0));
            x.set(0, 4, ',' | 1L << 31);
            Due.is("read: the 32nd bit counts", -6, x.read(0));
            Due.is("read: the 32nd bit counts", 4, x.fault());
        }
    }

    private static void readRefusals() {
        for (int s : NO_SHELVES) {
            refuses("read: no SHELF " + s, -1, holding("t9"), y -> y.read(s));
        }
        refuses("read: a NODE", -2, holding("t9"), y -> y.read(4));
        refuses("read: NOTHING", -3, Bounds::rich, y -> y.read(5));
        fault("t9", 1);
        HistogramPlans x = rich();
        for (int s = 0; s < 8; s++) {
            text(x, s, 0, "t2:1,1,1");
            Due.is("read: SHELF " + s, 1, x.read(s));
        }
    }

    private static void faultOfTheLatestRead() {
        keeps("fault: none yet", NONE, Bounds::blank, y -> y.fault());
        keeps("fault: of the latest", 0, Bounds::rich, y -> y.fault());
        State behind = () -> {
            HistogramPlans x = holding("t1:1,").made();
            x.read(5);
            return x;
        };
        keeps("fault: of a later one", 5, behind, y -> y.fault());
        refuses("fault: not of a read() that came to no SHELF", -1, behind, y -> y.read(8));
        refuses("fault: not of a read() that came to a NODE", -2, behind, y -> y.read(4));
        HistogramPlans x = behind.made();
        x.show(5, NONE);
        Due.is("fault: not of a read() that came to NOTHING", -3, x.read(5));
        Due.is("fault: not of a read() that came to NOTHING", 5, x.fault());
        text(x, 5, 0, "t2:1,1,1");
        x.read(5);
        Due.is("fault: there was none", NONE, x.fault());
        x.read(8);
        Due.is("fault: there was none", NONE, x.fault());
    }
}
