import java.util.NoSuchElementException;

/** Promises 1 to 10: a new object, the tape, the town and what it is asked. */
final class TownTest {

    private static final String TOWN = "places 5;touch 0 1;touch 1 2 wall;touch 3 2;"
        + "thing 0 count 1;thing 1 count 3 kind 7 slow 9;thing 3 count 0 stays;thing 2 count 99;"
        + "event 0 thing 3 less 4;";

    public static void main(String[] args) {
        newObject();
        feed();
        town();
        fault();
        thing();
        nought();
        place();
        steps();
        clash();
        clashes();
        Kit.end("TownTest");
    }

    private static void newObject() {
        OddTouch x = new OddTouch();
        for (int what = 0; what <= 10; what++) {
            Kit.due("1: count(" + what + ")", x.count(what), 0);
        }
        Kit.due("1: NONE", OddTouch.NONE, -1);
        Kit.due("1: fault(0)", x.fault(0), 0);
        Kit.due("1: fault(1)", x.fault(1), -1);
        for (int i = 0; i < 4; i++) {
            int tray = i;
            Kit.dueThrow(x, "1: no tray", () -> x.pour(tray), IllegalStateException.class);
        }
        Kit.due("1: clashes", x.clashes(), 0);
        Kit.due("1: firstClash", x.firstClash(), -1);
        Kit.dueThrow(x, "1: undo", () -> x.undo(1), IllegalArgumentException.class);
    }

    private static void feed() {
        OddTouch x = new OddTouch();
        for (int i = 1; i <= 45; i++) {
            Kit.due("2: feed", x.feed(0, 0, 0, 0, 0), 20 * i);
        }
        Kit.due("2: feed beyond 900", x.feed(1, 2, 3, 4, 5), -1);
        Kit.due("2: nothing changes", x.count(8), 900);
        Kit.due("2: 900 bytes at once", x.town(900), -11);
        Kit.due("2: the tape is empty", x.feed(0x706c6163, 0x65732033, 0x3b7a6572, 0x6f206f64, 0x643b0000), 20);
        Kit.due("2: the highest byte first", x.town(18), 2);
        Kit.due("2: what it says", x.count(1), 3);
        x.feed(0x706c6163, 0x65732039, 0x3b202020, 0x20202020, 0x20202020);
        Kit.due("2: behind those", x.feed(0x7a65726f, 0x206f6464, 0x3b202020, -1, -1), 40);
        Kit.due("2: two together", x.town(29), 2);
    }

    private static void town() {
        OddTouch x = new OddTouch();
        Kit.due("3: lines", Kit.tell(x, TOWN), 9);
        Kit.due("3: the tape is empty", x.count(8), 0);
        x.move(0, 4);
        x.days(1);
        x.change(0, 1);
        Kit.feed(x, "places 2;thing 1 count 4;");
        Kit.dueThrow(x, "3: below 0", () -> x.town(-1), IllegalArgumentException.class);
        Kit.dueThrow(x, "3: above what it has", () -> x.town(41), IllegalArgumentException.class);
        Kit.due("3: the tape stays by a throw", x.count(8), 40);
        Kit.due("3: a fault", x.town(24), -12);
        Kit.due("3: the tape is empty by a fault", x.count(8), 0);
        Kit.due("3: all else stays: things", x.count(2), 4);
        Kit.due("3: all else stays: time", x.count(5), 1000);
        Kit.due("3: all else stays: deeds", x.count(7), 2);
        Kit.due("3: all else stays: a count", x.thing(0, 1), 2);
        Kit.due("3: another town", Kit.tell(x, "places 2;thing 1 count 4;"), 2);
        Kit.due("3: time 0", x.count(5), 0);
        Kit.due("3: pain 0", x.count(6), 0);
        Kit.due("3: no deeds", x.count(7), 0);
        Kit.due("3: no touches", x.count(3), 0);
        Kit.due("3: no events", x.count(4), 0);
        Kit.due("3: it lies there", x.place(1, 0), 0);
        Kit.due("3: only the first n bytes", tellPart(x, "places 3;zero odd;", 9), 1);
        Kit.due("3: the rest is gone", x.count(8), 0);
        Kit.due("3: no bytes are no town", x.town(0), -12);
    }

    private static int tellPart(OddTouch x, String text, int n) {
        Kit.feed(x, text);
        return x.town(n);
    }

    private static void fault() {
        OddTouch x = new OddTouch();
        Kit.due("4: -10 less the fault", Kit.tell(x, "places 0;"), -13);
        Kit.due("4: the fault", x.fault(0), 3);
        Kit.due("4: its place", x.fault(1), 7);
        Kit.due("4: others", x.fault(2), -1);
        Kit.due("4: others", x.fault(-1), -1);
        Kit.dueThrow(x, "4: a throw leaves it", () -> x.town(1), IllegalArgumentException.class);
        Kit.due("4: still", x.fault(0), 3);
        Kit.tell(x, "places 1;");
        Kit.due("4: without", x.fault(0), 0);
        Kit.due("4: no place", x.fault(1), -1);
    }

    private static void thing() {
        OddTouch x = Kit.town(TOWN);
        int[][] want = {{0, 1, 0, 1, 0, 1, 0, 2}, {1, 3, 7, 9, 0, 1, 0, 1 | 8},
            {3, 0, 0, 1, 1, 0, 1, 0}, {2, 99, 0, 1, 0, 1, 0, 2}};
        for (int t = 0; t < 4; t++) {
            for (int what = 0; what <= 7; what++) {
                Kit.due("5: thing(" + t + ", " + what + ")", x.thing(t, what), want[t][what]);
            }
        }
        for (int bad : new int[] {-1, 4, Integer.MAX_VALUE, Integer.MIN_VALUE}) {
            Kit.dueThrow(x, "5: no such thing", () -> x.thing(bad, 9), NoSuchElementException.class);
        }
        for (int bad : new int[] {-1, 8, Integer.MAX_VALUE, Integer.MIN_VALUE}) {
            Kit.dueThrow(x, "5: no such what", () -> x.thing(0, bad), IllegalArgumentException.class);
        }
    }

    private static void nought() {
        String[] zeros = {"", "zero even;", "zero odd;", "zero both;", "zero neither;",
            "zero both;zero odd;"};
        int[] odd = {0, 0, 1, 1, 0, 1};
        int[] even = {1, 1, 0, 1, 0, 0};
        for (int i = 0; i < zeros.length; i++) {
            OddTouch x = Kit.town("places 2;touch 0 1;thing 0 count 0;thing 1 count 1;" + zeros[i]);
            Kit.due("5: nought is odd, " + zeros[i], x.thing(0, 5), odd[i]);
            Kit.due("5: nought is even, " + zeros[i], x.thing(0, 6), even[i]);
            Kit.due("9: nought clashes, " + zeros[i], x.clashes(), odd[i]);
        }
    }

    private static void place() {
        OddTouch x = Kit.town(TOWN);
        int[][] want = {{0, 2, 0}, {1, 5, 4}, {3, 10, 2}, {2, 4, 0}, {-1, 0, 0}};
        for (int p = 0; p < 5; p++) {
            for (int what = 0; what <= 2; what++) {
                Kit.due("6: place(" + p + ", " + what + ")", x.place(p, what), want[p][what]);
            }
        }
        for (int bad : new int[] {-1, 5, 10, Integer.MAX_VALUE, Integer.MIN_VALUE}) {
            Kit.dueThrow(x, "6: no such place", () -> x.place(bad, 3), NoSuchElementException.class);
        }
        for (int bad : new int[] {-1, 3, Integer.MIN_VALUE}) {
            Kit.dueThrow(x, "6: no such what", () -> x.place(0, bad), IllegalArgumentException.class);
        }
    }

    private static void steps() {
        OddTouch x = Kit.town("places 10;touch 0 1;touch 1 2 wall;touch 2 3;touch 3 4;touch 4 5;"
            + "touch 5 6;touch 6 7;touch 7 8;touch 8 2;");
        int[] from0 = {0, 1, 2, 3, 4, 5, 5, 4, 3, -1};
        for (int q = 0; q < 10; q++) {
            Kit.due("7: steps(0, " + q + ")", x.steps(0, q), from0[q]);
            Kit.due("7: steps(" + q + ", 0)", x.steps(q, 0), from0[q]);
        }
        Kit.due("7: its own", x.steps(9, 9), 0);
        Kit.dueThrow(x, "7: no such place", () -> x.steps(0, 10), NoSuchElementException.class);
        Kit.dueThrow(x, "7: no such place", () -> x.steps(-1, 0), NoSuchElementException.class);
        OddTouch line = Kit.town("places 10;touch 9 0;touch 0 8;touch 8 1;touch 1 7;touch 7 2;"
            + "touch 2 6;touch 6 3;touch 3 5;touch 5 4;");
        Kit.due("7: the longest way", line.steps(9, 4), 9);
    }

    private static void clash() {
        OddTouch x = Kit.town("places 3;thing 2 count 1;thing 0 count 5 kind 1;thing 1 count 3;"
            + "law a<b and [alike=0 or wall=1];");
        Kit.due("8: the lesser number is a", x.clash(0, 1, false), false);
        Kit.due("8: either way round", x.clash(1, 0, false), false);
        Kit.due("8: alike", x.clash(0, 2, false), true);
        Kit.due("8: alike, through a wall", x.clash(2, 0, true), false);
        Kit.due("8: a is more", x.clash(1, 2, true), true);
        Kit.dueThrow(x, "8: both one", () -> x.clash(1, 1, true) ? 1 : 0,
            IllegalArgumentException.class);
        Kit.dueThrow(x, "8: no such thing", () -> x.clash(3, 3, true) ? 1 : 0,
            NoSuchElementException.class);
        Kit.dueThrow(x, "8: no such thing", () -> x.clash(0, -1, true) ? 1 : 0,
            NoSuchElementException.class);
    }

    private static void clashes() {
        OddTouch x = Kit.town("places 4;touch 0 1;touch 1 2 wall;touch 2 3;touch 3 0;touch 0 2;"
            + "thing 3 count 2;thing 1 count 1;thing 2 count 7;thing 0 count 5;");
        Kit.due("9: three odd ones in a ring", x.clashes(), 3);
        Kit.due("10: the first two", x.firstClash(), 12);
        x.change(2, 1);
        Kit.due("9: one of them is even", x.clashes(), 1);
        Kit.due("10: the first two then", x.firstClash(), 13);
        x.change(1, 1);
        Kit.due("9: none", x.clashes(), 0);
        Kit.due("10: none", x.firstClash(), -1);
        OddTouch full = Kit.town("places 10;touch 0 1;touch 0 2;touch 0 3;touch 0 4;touch 0 5;"
            + "touch 0 6;touch 0 7;touch 1 2;touch 1 3;touch 1 4;touch 1 5;touch 1 6;touch 1 7;"
            + "touch 2 3;touch 2 4;touch 2 5;touch 2 6;touch 2 7;touch 3 4;touch 3 5;"
            + "thing 0 count 1;thing 1 count 1;thing 2 count 1;thing 3 count 1;thing 4 count 1;"
            + "thing 5 count 1;thing 6 count 1;thing 7 count 1;");
        Kit.due("9: twenty", full.clashes(), 20);
        Kit.due("10: 1 is 0 and 1", full.firstClash(), 1);
    }
}
