import java.util.NoSuchElementException;

/** Promises 30 to 32, 36 and 37: rows, tables, and what flipped when. */
final class RowsTest {

    private static final String FIVE = "places 5;thing 4 count 1;thing 3 count 3;thing 2 count 5;"
        + "thing 1 count 2;thing 0 count 4;";

    public static void main(String[] args) {
        goats();
        badRows();
        bestRow();
        seats();
        seen();
        badSights();
        Kit.end("RowsTest");
    }

    private static void row(OddTouch x, int open, int round, long... things) {
        Kit.fill(x, 1, things);
        Kit.due("30: goats", x.goats(1, false), open);
        Kit.due("30: goats, round", x.goats(1, true), round);
    }

    private static void goats() {
        OddTouch x = Kit.town(FIVE);
        row(x, 0, 0, 2);
        row(x, 1, 1, 0, 1);
        row(x, 2, 3, 0, 1, 2);
        row(x, 0, 1, 0, 3, 1, 4, 2);
        row(x, 2, 3, 2, 1, 0);
        row(x, 1, 1, 0, 1, 3);
        row(x, 0, 0, 0, 3, 1, 4);
        OddTouch lesser = Kit.town(FIVE + "law a<b and wall=0;");
        row(lesser, 0, 0, 2, 0, 1);
        row(lesser, 1, 1, 0, 2, 3);
        row(lesser, 1, 1, 3, 2, 0);
        OddTouch wall = Kit.town(FIVE + "law wall=1;");
        row(wall, 4, 5, 0, 1, 2, 3, 4);
    }

    private static void badRow(OddTouch x, long... things) {
        Kit.fill(x, 1, things);
        Kit.dueThrow(x, "30: none such", () -> x.goats(1, true), IllegalArgumentException.class);
        Kit.dueThrow(x, "32: none such", () -> x.seats(1, 3, 0), IllegalArgumentException.class);
    }

    private static void badRows() {
        OddTouch x = Kit.town(FIVE);
        badRow(x);
        badRow(x, 0, 0);
        badRow(x, 0, 1, 2, 0);
        badRow(x, -1);
        badRow(x, 5);
        badRow(x, 0, 1L << 32);
        badRow(x, Long.MIN_VALUE);
        badRow(x, new long[11]);
        Kit.dueThrow(x, "30: missing", () -> x.goats(0, true), IllegalStateException.class);
        Kit.dueThrow(x, "30: no such tray", () -> x.goats(4, true), NoSuchElementException.class);
        Kit.dueThrow(x, "32: missing", () -> x.seats(0, 99, 99), IllegalStateException.class);
        Kit.dueThrow(x, "32: no such tray", () -> x.seats(-1, 99, 99), NoSuchElementException.class);
    }

    private static void best(OddTouch x, int set, boolean round, int goats, int... row) {
        Kit.due("31: goats of " + set, x.bestRow(set, round, 0), goats);
        for (int k = 0; k < 8; k++) {
            Kit.due("31: bestRow(" + set + ", " + round + ", " + (10 + k) + ")",
                x.bestRow(set, round, 10 + k), k < row.length ? row[k] : -1);
        }
    }

    private static void bestRow() {
        OddTouch x = Kit.town(FIVE);
        best(x, 0, false, 0);
        best(x, 0, true, 0);
        best(x, 8, true, 0, 3);
        best(x, 3, false, 1, 0, 1);
        best(x, 3, true, 1, 0, 1);
        best(x, 7, false, 2, 0, 1, 2);
        best(x, 7, true, 3, 0, 1, 2);
        best(x, 31, false, 0, 0, 3, 1, 4, 2);
        best(x, 31, true, 1, 0, 1, 3, 2, 4);
        best(x, 14, false, 0, 1, 3, 2);
        best(x, 24, true, 0, 3, 4);
        OddTouch lead = Kit.town("places 3;thing 0 count 2;thing 1 count 1;thing 2 count 1;");
        best(lead, 7, false, 0, 1, 0, 2);
        best(lead, 7, true, 1, 0, 1, 2);
        for (int bad : new int[] {32, -1, 63, Integer.MIN_VALUE, 1 << 8}) {
            Kit.dueThrow(x, "31: others than things", () -> x.bestRow(bad, true, 0),
                IllegalArgumentException.class);
        }
        for (int bad : new int[] {-1, 1, 9, 18, Integer.MAX_VALUE}) {
            Kit.dueThrow(x, "31: another what", () -> x.bestRow(1, true, bad),
                IllegalArgumentException.class);
        }
        Kit.dueThrow(new OddTouch(), "31: no things", () -> new OddTouch().bestRow(1, true, 0),
            IllegalArgumentException.class);
    }

    private static void table(OddTouch x, int n, int sit, int... who) {
        Kit.due("32: how many sit of " + n, x.seats(1, n, 0), sit);
        for (int k = 0; k < 10; k++) {
            Kit.due("32: seats(1, " + n + ", " + (10 + k) + ")", x.seats(1, n, 10 + k),
                k < who.length ? who[k] : -1);
        }
    }

    private static void seats() {
        OddTouch x = Kit.town(FIVE);
        Kit.fill(x, 1, 0, 1, 2, 3, 4);
        table(x, 1, 1, 0);
        table(x, 2, 2, 0, 3);
        table(x, 3, 3, 0, 3, 4);
        table(x, 5, 4, 0, 3, 1, 4);
        table(x, 6, 5, 0, 3, 1, 4, 2);
        table(x, 10, 5, 0, 3, 1, 4, 2);
        Kit.fill(x, 1, 4, 3);
        table(x, 10, 2, 4, 3);
        for (int bad : new int[] {0, 11, -1, Integer.MAX_VALUE}) {
            Kit.dueThrow(x, "32: n", () -> x.seats(1, bad, 0), IllegalArgumentException.class);
        }
        for (int bad : new int[] {-1, 1, 9, 20, Integer.MIN_VALUE}) {
            Kit.dueThrow(x, "32: another what", () -> x.seats(1, 3, bad),
                IllegalArgumentException.class);
        }
    }

    private static void saw(OddTouch x, long[] sights, int rows, int... sure) {
        Kit.fill(x, 2, sights);
        String before = Kit.stateOf(x);
        Kit.due("36: rows", x.seen(2), rows);
        for (int k = 0; k < sure.length; k++) {
            Kit.due("37: sure(2, " + k + ")", x.sure(2, k), sure[k]);
        }
        Kit.due("36: nothing changes", Kit.stateOf(x), before);
    }

    private static void seen() {
        String two = "places 2;touch 0 1;thing 0 count 99 stays;thing 1 count 1;";
        OddTouch x = Kit.town(two);
        saw(x, new long[] {0}, 2, -2);
        saw(x, new long[] {1}, 1, -1);
        saw(x, new long[] {2}, 0, -2);
        saw(x, new long[] {-1}, 3, -2);
        saw(x, new long[] {0, 1}, 2, -2, -2);
        saw(x, new long[] {1, 1}, 1, -1, -1);
        saw(x, new long[] {-1, 1}, 3, -2, -2);
        saw(x, new long[] {-1, -1, -1, -1}, 81, -2, -2, -2, -2);
        saw(x, new long[] {1L << 32}, 0, -2);
        OddTouch y = Kit.town(two + "law a=98;");
        saw(y, new long[] {0}, 1, 0);
        saw(y, new long[] {0, 1}, 1, 0, 0);
        saw(y, new long[] {0, 1, 0}, 1, 0, 0, 0);
        saw(y, new long[] {1, 0}, 2, -2, 0);
        saw(y, new long[] {0, 0}, 2, 0, -2);
        saw(Kit.town("places 1;"), new long[] {0, -1}, 1, -1, -1);
        saw(Kit.town("places 1;"), new long[] {1}, 0, -2);
    }

    private static void badSight(OddTouch x, long... sights) {
        Kit.fill(x, 2, sights);
        Kit.dueThrow(x, "36: none such", () -> x.seen(2), IllegalArgumentException.class);
        Kit.dueThrow(x, "37: none such", () -> x.sure(2, 0), IllegalArgumentException.class);
    }

    private static void badSights() {
        OddTouch x = Kit.town(FIVE);
        badSight(x);
        badSight(x, 0, 0, 0, 0, 0);
        badSight(x, -2);
        badSight(x, 0, Long.MIN_VALUE);
        Kit.fill(x, 2, 0, 0);
        Kit.dueThrow(x, "37: k", () -> x.sure(2, 2), IllegalArgumentException.class);
        Kit.dueThrow(x, "37: k", () -> x.sure(2, -1), IllegalArgumentException.class);
        Kit.dueThrow(x, "36: missing", () -> x.seen(0), IllegalStateException.class);
        Kit.dueThrow(x, "37: missing", () -> x.sure(0, 9), IllegalStateException.class);
        Kit.dueThrow(x, "36: no such tray", () -> x.seen(4), NoSuchElementException.class);
        Kit.dueThrow(x, "37: no such tray", () -> x.sure(-1, 9), NoSuchElementException.class);
    }
}
