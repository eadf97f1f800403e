import java.util.NoSuchElementException;

/** Promises 38 to 43: trays, images, counts. */
final class TraysTest {

    private static final String TOWN = "places 5;touch 0 1;touch 1 2;thing 0 count 1;thing 1 count 3;"
        + "thing 4 count 2;event 5 thing 0 more 1;zero both;law a<9;";

    public static void main(String[] args) {
        tray();
        write();
        pour();
        image();
        imagesKeepTheirOwn();
        count();
        Kit.end("TraysTest");
    }

    private static long lay(OddTouch x, int tray, int sort, int many) {
        x.tray(tray, sort, many);
        return 0;
    }

    private static void tray() {
        OddTouch x = Kit.town(TOWN);
        x.tray(0, 0, 30);
        Kit.due("38: all 0", x.judge(0, 0), 0);
        x.write(0, 0, -1);
        x.tray(0, 3, 1);
        Kit.due("38: 0 again", x.judge(0, 1), 3);
        x.write(0, 0, -1);
        int[][] bad = {{0, 4, 1}, {0, -1, 1}, {0, 0, 31}, {0, 0, -1}, {0, 9, 99}};
        for (int[] b : bad) {
            Kit.dueThrow(x, "38: no such", () -> lay(x, b[0], b[1], b[2]),
                IllegalArgumentException.class);
        }
        Kit.due("38: it stays as it was", x.judge(0, 2), 1000);
        Kit.dueThrow(x, "38: no such tray", () -> lay(x, 4, 9, 99), NoSuchElementException.class);
        Kit.dueThrow(x, "38: no such tray", () -> lay(x, -1, 0, 1), NoSuchElementException.class);
        Kit.dueThrow(x, "38: a throw makes none", () -> lay(x, 1, 4, 1),
            IllegalArgumentException.class);
        Kit.dueThrow(x, "38: still missing", () -> x.pour(1), IllegalStateException.class);
        x.tray(3, 2, 0);
        Kit.due("38: an empty one", x.pour(3), 0);
        Kit.dueThrow(x, "38: has no place", () -> x.write(3, 0, 1), IndexOutOfBoundsException.class);
    }

    private static void write() {
        OddTouch x = new OddTouch();
        long[] numbers = {0, 1, -1, 127, 128, 200, 32767, 32768, 40000, 65535, 1L << 31, 1L << 32,
            Long.MAX_VALUE, Long.MIN_VALUE};
        for (int sort = 0; sort < 4; sort++) {
            x.tray(sort, sort, 30);
            for (long v : numbers) {
                long want = sort == 0 ? (byte) v : sort == 1 ? (short) v : sort == 2 ? (int) v : v;
                Kit.due("39: " + v + " in sort " + sort, x.write(sort, 29, v), want);
            }
        }
        Kit.due("39: 8 bits", x.write(0, 0, 200), -56);
        Kit.due("39: 16 bits", x.write(1, 0, 40000), -25536);
        Kit.due("39: 32 bits", x.write(2, 0, 1L << 31), -2147483648L);
        Kit.due("39: 64 bits", x.write(3, 0, 1L << 31), 2147483648L);
        Kit.dueThrow(x, "39: no such place", () -> x.write(0, 30, 1), IndexOutOfBoundsException.class);
        Kit.dueThrow(x, "39: no such place", () -> x.write(0, -1, 1), IndexOutOfBoundsException.class);
        Kit.dueThrow(x, "39: no such tray", () -> x.write(4, 99, 1), NoSuchElementException.class);
        Kit.dueThrow(x, "39: no such tray", () -> x.write(-1, 0, 1), NoSuchElementException.class);
        OddTouch y = new OddTouch();
        Kit.dueThrow(y, "39: missing", () -> y.write(0, 99, 1), IllegalStateException.class);
    }

    private static void pour() {
        OddTouch x = Kit.town("places 3;touch 0 1;touch 1 2;thing 2 count 0;thing 0 count 0;law 1=1;");
        Kit.fill(x, 0, 5);
        Kit.due("40: as many as it has places", x.pour(0), 1);
        Kit.due("40: the place of thing 0: 2 is a move of thing 0", x.judge(0, 1), 3);
        Kit.fill(x, 0, 9, 9, 1);
        Kit.due("40: as many as there are", x.pour(0), 2);
        Kit.due("40: what comes behind stays: 2, 0, 1", x.judge(0, 0), 0);
        x.move(0, 1);
        Kit.due("40: again", x.pour(0), 2);
        Kit.fill(x, 1, 9, 9, 9);
        x.pour(1);
        Kit.dueThrow(x, "40: 1, 0, 9 is no row", () -> x.goats(1, false),
            IllegalArgumentException.class);
        x.write(1, 2, 0);
        Kit.dueThrow(x, "40: 1, 0, 0 is no row", () -> x.goats(1, false),
            IllegalArgumentException.class);
        Kit.fill(x, 1, 9, 9);
        x.pour(1);
        Kit.due("40: 1, 0 is one", x.goats(1, false), 0);
        Kit.due("40: who sits first", x.seats(1, 2, 10), 1);
        Kit.dueThrow(x, "40: missing", () -> x.pour(3), IllegalStateException.class);
        Kit.dueThrow(x, "40: no such tray", () -> x.pour(4), NoSuchElementException.class);
        Kit.dueThrow(x, "40: no such tray", () -> x.pour(-1), NoSuchElementException.class);
        OddTouch none = new OddTouch();
        none.tray(0, 0, 3);
        Kit.due("40: no things", none.pour(0), 0);
    }

    private static long take(OddTouch x, int i) {
        x.image(i);
        return 0;
    }

    private static long giveBack(OddTouch x, int i) {
        x.restore(i);
        return 0;
    }

    private static void image() {
        OddTouch x = Kit.town(TOWN);
        x.move(0, 2);
        x.days(2);
        x.change(1, 7);
        x.image(1);
        String then = Kit.stateOf(x);
        Kit.tell(x, "places 2;touch 0 1;thing 0 count 4;");
        x.change(0, 1);
        x.restore(1);
        Kit.due("42: all is as it was", Kit.stateOf(x), then);
        Kit.due("42: the law too", x.clash(0, 1, false), false);
        Kit.due("42: what nought is too", x.change(2, -9) + 10 * x.thing(2, 5) + x.thing(2, 6), 11);
        x.undo(1);
        Kit.due("42: deeds too", x.undo(4), 0);
        Kit.due("42: undone", x.thing(0, 0), 0);
        Kit.due("42: undone", x.count(5), 0);
        x.restore(1);
        Kit.due("42: once more", Kit.stateOf(x), then);
        for (int bad : new int[] {-1, 3, Integer.MAX_VALUE}) {
            Kit.dueThrow(x, "41: no such image", () -> take(x, bad), NoSuchElementException.class);
            Kit.dueThrow(x, "42: no such image", () -> giveBack(x, bad), NoSuchElementException.class);
        }
        Kit.dueThrow(x, "42: none was made", () -> giveBack(x, 0), IllegalStateException.class);
        Kit.dueThrow(x, "42: none was made", () -> giveBack(x, 2), IllegalStateException.class);
    }

    private static void imagesKeepTheirOwn() {
        OddTouch x = new OddTouch();
        x.image(0);
        Kit.tell(x, TOWN);
        x.image(1);
        x.change(0, 5);
        x.image(2);
        Kit.fill(x, 0, -1);
        Kit.due("42: the fault stays", Kit.tell(x, "places 1;zero;"), -12);
        Kit.feed(x, "places 1;");
        x.restore(0);
        Kit.due("42: no town then", x.count(0) + x.count(1) + x.count(2) + x.count(9), 0);
        Kit.due("42: the tape stays", x.count(8), 20);
        Kit.due("42: the fault stays", x.fault(1), 13);
        Kit.due("42: trays stay", x.judge(0, 2), 1000);
        x.restore(2);
        Kit.due("42: the third", x.thing(0, 1), 6);
        Kit.due("42: the third's deeds", x.count(7), 1);
        x.restore(1);
        Kit.due("42: the second", x.thing(0, 1), 1);
        Kit.due("42: the second's deeds", x.count(7), 0);
        x.change(0, 3);
        x.image(1);
        x.restore(2);
        x.restore(1);
        Kit.due("41: made anew", x.thing(0, 1), 4);
    }

    private static void count() {
        OddTouch x = Kit.town(TOWN);
        x.move(0, 2);
        x.days(1);
        Kit.feed(x, "places 1;");
        int[] want = {9, 5, 3, 2, 1, 1002, 0, 2, 20, 1, 2};
        for (int what = 0; what <= 10; what++) {
            Kit.due("43: count(" + what + ")", x.count(what), want[what]);
        }
        for (int other : new int[] {-1, 11, Integer.MAX_VALUE, Integer.MIN_VALUE}) {
            Kit.due("43: others", x.count(other), -1);
        }
        OddTouch pain = Kit.town("places 2;touch 0 1;thing 0 count 1;thing 1 count 1;");
        pain.days(3);
        Kit.due("43: pain", pain.count(6), 3000);
    }
}
