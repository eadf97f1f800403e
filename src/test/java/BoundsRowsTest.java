import java.util.Arrays;

/** Rows, round tables, what was seen (promises 30 to 32, 36, 37): both sides of each bound. */
final class BoundsRowsTest {

    /** Three odd ones, two even ones; none touch. */
    private static final String FIVE = "places 5;thing 4 count 1;thing 3 count 3;thing 2 count 5;"
        + "thing 1 count 2;thing 0 count 4;";
    private static final int[] NO_TRAYS = {-1, 4, Integer.MIN_VALUE, Integer.MAX_VALUE};

    public static void main(String[] args) {
        rows();
        goats();
        goatThrows();
        bestRow();
        emptySet();
        bestRowThrows();
        seats();
        seatWhats();
        seatThrows();
        seen();
        sights();
        sure();
        Kit.end("BoundsRowsTest");
    }

    private static OddTouch with(String text, long... numbers) {
        OddTouch x = Kit.town(text);
        Kit.fill(x, 3, numbers);
        return x;
    }

    private static String eight(int count) {
        StringBuilder s = new StringBuilder("places 8;");
        for (int t = 0; t < 8; t++) {
            s.append("thing " + t + " count " + count + ";");
        }
        return s.toString();
    }

    private static long[] upTo(int many) {
        long[] row = new long[many];
        for (int i = 0; i < many; i++) {
            row[i] = i;
        }
        return row;
    }

    // ---- rows

    private static void rows() {
        Kit.sentence("A ROW in a TRAY (1 to 10 numbers: THINGS, unlike ones)");
        for (int many = 1; many <= 8; many++) {
            long[] row = upTo(many);
            Kit.asked(() -> with(eight(1), row), many + " things", x -> x.goats(3, false), many - 1);
        }
        long[][] none = {{}, upTo(9), upTo(10), upTo(11), new long[2], new long[10], new long[11], new long[30],
            {8}, {-1}, {0, 8}, {7, -1}, {0, 1, 0}, {1, 0, 0}, {7, 6, 5, 4, 3, 2, 1, 7}, {Long.MIN_VALUE},
            {Long.MAX_VALUE}, {1L << 32}, {0, 1L << 32}, {(1L << 32) - 1}, {256}, {-256}};
        for (long[] row : none) {
            Kit.refused(() -> with(eight(1), row), Arrays.toString(row), x -> x.goats(3, false), Kit.ARGUMENT);
            Kit.refused(() -> with(eight(1), row), Arrays.toString(row), x -> x.seats(3, 10, 0), Kit.ARGUMENT);
        }
        Kit.refused(() -> with(FIVE, 5), "no sixth thing", x -> x.goats(3, false), Kit.ARGUMENT);
        Kit.asked(() -> with(FIVE, 4), "the fifth", x -> x.goats(3, false), 0);
        Kit.refused(() -> with("places 1;", 0), "nobody", x -> x.goats(3, false), Kit.ARGUMENT);
    }

    private static void row(int open, int round, long... things) {
        Kit.asked(() -> with(FIVE, things), Arrays.toString(things), x -> x.goats(3, false), open);
        Kit.asked(() -> with(FIVE, things), "round " + Arrays.toString(things), x -> x.goats(3, true), round);
    }

    private static void goats() {
        Kit.sentence("each touches the next one (no WALL); round: the last one and the first, too, if there are "
            + "more than two. GOATS: one between each two that would CLASH.");
        row(0, 0, 0);
        row(0, 0, 0, 3);
        row(1, 1, 0, 1);
        row(2, 3, 0, 1, 2);
        row(1, 1, 0, 1, 3);
        row(0, 1, 0, 3, 1);
        row(0, 0, 0, 3, 1, 4);
        row(1, 2, 0, 3, 4, 1, 2);
    }

    private static void goatThrows() {
        Kit.sentence("GOATS of a ROW. IllegalArgumentException: numbers that are none such.");
        for (int tray : NO_TRAYS) {
            Kit.refused(() -> with(FIVE), "tray " + tray, x -> x.goats(tray, true), Kit.NO_SUCH);
        }
        for (int i = 0; i < 3; i++) {
            int tray = i;
            Kit.refused(() -> with(FIVE), "missing " + tray, x -> x.goats(tray, true), Kit.STATE);
        }
        Kit.refused(() -> with(FIVE), "an empty one", x -> x.goats(3, true), Kit.ARGUMENT);
        Kit.Maker wall = () -> with("places 2;touch 0 1 wall;thing 0 count 1;thing 1 count 1;law wall=1;", 0, 1);
        Kit.asked(wall, "no wall between", x -> x.goats(3, false), 1);
    }

    // ---- the best row

    private static void best(Kit.Maker maker, int set, boolean round, int goats, int... row) {
        String label = set + (round ? " round" : "");
        Kit.asked(maker, "goats of " + label, x -> x.bestRow(set, round, 0), goats);
        for (int k = 0; k < 8; k++) {
            int what = 10 + k;
            Kit.asked(maker, what + " of " + label, x -> x.bestRow(set, round, what),
                k < row.length ? row[k] : -1);
        }
    }

    private static void bestRow() {
        Kit.sentence("BEST ROW of a set: that with the fewest GOATS, of like ones the first by numbers.");
        Kit.Maker five = () -> Kit.town(FIVE);
        for (boolean round : new boolean[] {false, true}) {
            best(five, 1, round, 0, 0);
            best(five, 16, round, 0, 4);
            best(five, 3, round, 1, 0, 1);
            best(five, 9, round, 0, 0, 3);
            best(five, 7, round, round ? 3 : 2, 0, 1, 2);
        }
        best(five, 11, false, 0, 0, 3, 1);
        best(five, 11, true, 1, 0, 1, 3);
        best(five, 27, false, 0, 0, 3, 1, 4);
        best(five, 27, true, 0, 0, 3, 1, 4);
        best(five, 31, false, 0, 0, 3, 1, 4, 2);
        best(five, 31, true, 1, 0, 1, 3, 2, 4);
        best(() -> Kit.town(eight(1)), 255, false, 7, 0, 1, 2, 3, 4, 5, 6, 7);
        best(() -> Kit.town(eight(1)), 255, true, 8, 0, 1, 2, 3, 4, 5, 6, 7);
        best(() -> Kit.town(eight(2)), 128, true, 0, 7);
        Kit.Maker lead = () -> Kit.town("places 3;thing 0 count 2;thing 1 count 1;thing 2 count 1;");
        best(lead, 7, false, 0, 1, 0, 2);
        best(lead, 7, true, 1, 0, 1, 2);
        OddTouch x = Kit.town(FIVE);
        int[][] again = {{7, 2}, {3, 1}, {7, 2}, {0, 0}, {7, 2}, {31, 0}, {7, 2}};
        for (int[] a : again) {
            Kit.due("one behind the other, " + a[0], x.bestRow(a[0], false, 0), a[1]);
        }
    }

    private static void emptySet() {
        Kit.sentence("BEST ROW of a set, what 0: GOATS, 10 + k: the k-th THING (NONE: not so many).");
        for (boolean round : new boolean[] {false, true}) {
            best(() -> Kit.town(FIVE), 0, round, 0);
            best(OddTouch::new, 0, round, 0);
            best(() -> Kit.town("places 10;"), 0, round, 0);
        }
    }

    private static void bestRowThrows() {
        Kit.sentence("IllegalArgumentException: a set with others than THINGS, another what (10 to 17).");
        String[] texts = {"places 10;", "places 10;thing 0 count 1;", FIVE, eight(1)};
        int[] things = {0, 1, 5, 8};
        for (int i = 0; i < texts.length; i++) {
            String text = texts[i];
            int all = (1 << things[i]) - 1;
            Kit.asked(() -> Kit.town(text), "all of " + text, x -> x.bestRow(all, false, 17),
                things[i] == 8 ? 7 : -1);
            for (int set : new int[] {all + 1, 2 * all + 1 + (all == 0 ? 1 : 0), -1, 1 << 8, 1 << 30,
                Integer.MIN_VALUE, Integer.MAX_VALUE}) {
                Kit.refused(() -> Kit.town(text), set + " of " + text, x -> x.bestRow(set, true, 0),
                    Kit.ARGUMENT);
            }
            for (int what : new int[] {-1, 1, 9, 18, Integer.MIN_VALUE, Integer.MAX_VALUE}) {
                Kit.refused(() -> Kit.town(text), what + ", " + text, x -> x.bestRow(all, true, what),
                    Kit.ARGUMENT);
            }
        }
    }

    // ---- tables

    private static void table(Kit.Maker maker, int n, int... who) {
        int sit = 0;
        for (int k = 0; k < 10; k++) {
            int what = 10 + k;
            int want = k < who.length ? who[k] : -1;
            sit += want == -1 ? 0 : 1;
            Kit.asked(maker, "seat " + k + " of " + n, x -> x.seats(3, n, what), want);
        }
        Kit.asked(maker, "how many sit of " + n, x -> x.seats(3, n, 0), sit);
    }

    private static void seats() {
        Kit.sentence("SEATS: a round table of n SEATS (1 to 10): THINGS of a TRAY come one behind the other, each "
            + "sits down at the first empty SEAT beside which it CLASHES with nobody (no WALL), or goes away.");
        Kit.Maker five = () -> with(FIVE, 0, 1, 2, 3, 4);
        table(five, 1, 0);
        table(five, 2, 0, 3);
        table(five, 3, 0, 3, 4);
        table(five, 4, 0, 3, 1, 4);
        table(five, 5, 0, 3, 1, 4);
        table(five, 6, 0, 3, 1, 4, 2);
        table(five, 10, 0, 3, 1, 4, 2);
        Kit.Maker odd = () -> with(eight(1), upTo(8));
        table(odd, 1, 0);
        table(odd, 2, 0);
        table(odd, 3, 0);
        table(odd, 4, 0, -1, 1);
        table(odd, 9, 0, -1, 1, -1, 2, -1, 3);
        table(odd, 10, 0, -1, 1, -1, 2, -1, 3, -1, 4);
        Kit.Maker even = () -> with(eight(2), 7, 6, 5, 4, 3, 2, 1, 0);
        table(even, 7, 7, 6, 5, 4, 3, 2, 1);
        table(even, 8, 7, 6, 5, 4, 3, 2, 1, 0);
        table(even, 9, 7, 6, 5, 4, 3, 2, 1, 0);
        Kit.Maker three = () -> with("places 3;thing 0 count 2;thing 1 count 3;thing 2 count 4;"
            + "law not a*b=6 and not a*b=12;", 0, 1, 2);
        table(three, 3, 0, 2);
        table(three, 4, 0, -1, 1);
        table(three, 5, 0, -1, 1, -1, 2);
        table(three, 6, 0, -1, 1, -1, 2);
        table(() -> with("places 2;touch 0 1 wall;thing 0 count 2;thing 1 count 2;law wall=1;", 1, 0), 2, 1);
    }

    private static void seatWhats() {
        Kit.sentence("SEATS, what 0: how many sit, 10 + k: who sits at SEAT k (NONE: nobody, no such SEAT).");
        Kit.Maker one = () -> with(FIVE, 2);
        for (int n = 1; n <= 10; n++) {
            table(one, n, 2);
        }
    }

    private static void seatThrows() {
        Kit.sentence("IllegalArgumentException: numbers that are none such, n, another what (10 to 19).");
        Kit.Maker one = () -> with(FIVE, 2);
        for (int n : new int[] {0, 11, -1, Integer.MIN_VALUE, Integer.MAX_VALUE}) {
            Kit.refused(one, n + " seats", x -> x.seats(3, n, 0), Kit.ARGUMENT);
            Kit.refused(one, "no tray, " + n, x -> x.seats(4, n, 0), Kit.NO_SUCH);
            Kit.refused(one, "missing, " + n, x -> x.seats(0, n, 0), Kit.STATE);
        }
        for (int what : new int[] {-1, 1, 9, 20, Integer.MIN_VALUE, Integer.MAX_VALUE}) {
            Kit.refused(one, "what " + what, x -> x.seats(3, 10, what), Kit.ARGUMENT);
            Kit.refused(one, "no tray, what " + what, x -> x.seats(-1, 10, what), Kit.NO_SUCH);
            Kit.refused(one, "missing, what " + what, x -> x.seats(2, 10, what), Kit.STATE);
        }
        for (int tray : NO_TRAYS) {
            Kit.refused(one, "tray " + tray, x -> x.seats(tray, 3, 0), Kit.NO_SUCH);
        }
        for (int i = 0; i < 3; i++) {
            int tray = i;
            Kit.refused(one, "missing " + tray, x -> x.seats(tray, 3, 0), Kit.STATE);
        }
    }

    // ---- what flipped

    private static final String TWO = "places 2;touch 0 1;thing 0 count 98;thing 1 count 0 stays;";

    private static void saw(String text, int rows, int[] sure, long... sights) {
        Kit.Maker maker = () -> with(text, sights);
        String label = Arrays.toString(sights) + " " + text;
        Kit.asked(maker, "rows, " + label, x -> x.seen(3), rows);
        for (int k = 0; k < sure.length; k++) {
            int step = k;
            Kit.asked(maker, "step " + k + ", " + label, x -> x.sure(3, step), sure[k]);
        }
    }

    private static void seen() {
        Kit.sentence("SEEN in a TRAY (1 to 4 numbers: CLASHES behind each step; NONE: not seen): in each step one "
            + "THING's COUNT is 1 more (as FLIPS), or none's: rows of these (THINGS, NONE) by which it is so.");
        saw("places 1;", 1, new int[] {-1}, -1);
        saw("places 1;", 1, new int[] {-1}, 0);
        saw("places 1;", 0, new int[] {-2}, 1);
        saw("places 1;", 1, new int[] {-1, -1, -1, -1}, 0, -1, 0, -1);
        saw(eight(2), 9, new int[] {-2}, -1);
        saw(eight(2), 6561, new int[] {-2, -2, -2, -2}, -1, -1, -1, -1);
        saw(TWO + "law a=99;", 1, new int[] {0}, 0);
        saw(TWO + "law a=99;", 2, new int[] {-2}, 1);
        saw(TWO + "law a=99;", 3, new int[] {-2}, -1);
        saw(TWO + "law a=99;", 1, new int[] {0, 0}, 0, 1);
        saw(TWO + "law a=99;", 1, new int[] {0, 0, 0, 0}, 0, 1, 0, 1);
        saw(TWO + "law a=99;", 4, new int[] {0, -2, -2}, 0, 0, 0);
        saw(TWO + "law a<99 and b=1;", 1, new int[] {1}, 0);
        saw(TWO + "law a+b=102;", 5, new int[] {-2, -2, -2, -2}, -1, -1, -1, 0);
        saw(TWO + "law a+b=103;", 0, new int[] {-2, -2, -2, -2}, -1, -1, -1, 0);
        saw("places 2;touch 0 1 wall;thing 0 count 1;thing 1 count 1;law wall=1;", 3, new int[] {-2}, 0);
        saw("places 2;touch 0 1 wall;thing 0 count 1;thing 1 count 1;law wall=0;", 3, new int[] {-2}, 1);
        saw("places 2;touch 0 1;thing 0 count 1 kind 1;thing 1 count 1;law alike=0;", 3, new int[] {-2}, 0);
        saw("places 2;touch 0 1;thing 0 count 1;thing 1 count 1;law alike=0;", 3, new int[] {-2}, 1);
        saw(TWO, 0, new int[] {-2}, 2);
        saw(TWO, 0, new int[] {-2}, Long.MAX_VALUE);
        saw(TWO, 0, new int[] {-2, -2}, 0, 1L << 32);
    }

    private static void sights() {
        Kit.sentence("IllegalArgumentException: numbers that are none such (below NONE), not 1 to 4.");
        long[][] none = {{}, new long[5], new long[30], {-2}, {0, -2}, {0, 0, 0, -2}, {-1, Long.MIN_VALUE},
            {Integer.MIN_VALUE}, {-1, -1, -1, -1, -1}};
        for (long[] row : none) {
            Kit.refused(() -> with(TWO, row), Arrays.toString(row), x -> x.seen(3), Kit.ARGUMENT);
            Kit.refused(() -> with(TWO, row), "sure, " + Arrays.toString(row), x -> x.sure(3, 0), Kit.ARGUMENT);
        }
        for (int many = 1; many <= 4; many++) {
            int rows = many;
            Kit.asked(() -> with("places 1;", new long[rows]), rows + " numbers", x -> x.seen(3), 1);
        }
        for (int tray : NO_TRAYS) {
            Kit.refused(() -> with(TWO, 0), "tray " + tray, x -> x.seen(tray), Kit.NO_SUCH);
        }
        for (int i = 0; i < 3; i++) {
            int tray = i;
            Kit.refused(() -> with(TWO, 0), "missing " + tray, x -> x.seen(tray), Kit.STATE);
        }
    }

    private static void sure() {
        Kit.sentence("Whose COUNT it is at step k in all of these; NONE: nobody's; -2: unlike ones, there are none. "
            + "IllegalArgumentException: also k.");
        for (int many = 1; many <= 4; many++) {
            long[] row = new long[many];
            for (int k : new int[] {-1, many, Integer.MIN_VALUE, Integer.MAX_VALUE}) {
                Kit.refused(() -> with(TWO, row), "step " + k + " of " + many, x -> x.sure(3, k), Kit.ARGUMENT);
                Kit.refused(() -> with(TWO, row), "no tray, step " + k, x -> x.sure(4, k), Kit.NO_SUCH);
                Kit.refused(() -> with(TWO, row), "missing, step " + k, x -> x.sure(0, k), Kit.STATE);
            }
            int last = many - 1;
            Kit.asked(() -> with("places 1;", row), "the last step of " + many, x -> x.sure(3, last), -1);
        }
        for (int tray : NO_TRAYS) {
            Kit.refused(() -> with(TWO, 0), "tray " + tray, x -> x.sure(tray, 0), Kit.NO_SUCH);
        }
    }
}
