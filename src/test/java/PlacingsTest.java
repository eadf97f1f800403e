import java.util.NoSuchElementException;

/** Promises 19 to 25: odd rings, sides, placings, the mending, the flips. */
final class PlacingsTest {

    private static final String PATH = "places 3;touch 0 1;touch 1 2;";

    public static void main(String[] args) {
        oddRing();
        sides();
        placings();
        manyPlacings();
        placing();
        mending();
        mend();
        flips();
        Kit.end("PlacingsTest");
    }

    private static void ring(String text, int many, int set) {
        OddTouch x = Kit.town(text);
        Kit.due("19: how many, " + text, x.oddRing(0), many);
        Kit.due("19: which, " + text, x.oddRing(1), set);
        if (many > 0) {
            Kit.due("20: no sides, " + text, x.sides(), -1);
        }
    }

    private static String cycle(int n) {
        StringBuilder s = new StringBuilder("places 10;");
        for (int i = 0; i < n; i++) {
            s.append("touch " + i + " " + (i + 1) % n + (i % 3 == 0 ? " wall;" : ";"));
        }
        return s.toString();
    }

    private static void oddRing() {
        ring("places 1;", -1, -1);
        ring("places 2;touch 0 1;", -1, -1);
        ring("places 10;touch 7 8;touch 8 9 wall;touch 9 7;", 3, 896);
        ring("places 10;touch 0 1;touch 1 9;touch 9 0;touch 2 3;touch 3 4;touch 4 2;", 3, 28);
        ring(cycle(3), 3, 7);
        ring(cycle(4), -1, -1);
        ring(cycle(5), 5, 31);
        ring(cycle(7), 7, 127);
        ring(cycle(8), -1, -1);
        ring(cycle(9), 9, 511);
        ring(cycle(10), -1, -1);
        ring(cycle(5) + "touch 0 2;", 3, 7);
        ring(cycle(9) + "touch 0 3;", 7, 0b111111001);
        ring(cycle(9) + "touch 0 4;", 5, 31);
        ring(cycle(6) + "touch 0 3;touch 6 7;touch 7 8;touch 8 6;", 3, 448);
        OddTouch x = Kit.town(cycle(5));
        Kit.dueThrow(x, "19: another what", () -> x.oddRing(2), IllegalArgumentException.class);
        Kit.dueThrow(x, "19: another what", () -> x.oddRing(-1), IllegalArgumentException.class);
        Kit.due("19: no town", new OddTouch().oddRing(0), -1);
    }

    private static void sides() {
        Kit.due("20: no town", new OddTouch().sides(), 0);
        Kit.due("20: ten in a ring", Kit.town(cycle(10)).sides(), 341);
        Kit.due("20: each alone", Kit.town("places 4;").sides(), 15);
        Kit.due("20: parts", Kit.town("places 6;touch 3 0;touch 5 1 wall;").sides(), 23);
        Kit.due("20: a later least", Kit.town("places 4;touch 3 2;touch 1 2;").sides(), 11);
        Kit.due("20: one odd part", Kit.town("places 5;touch 0 1;touch 2 3;touch 3 4;touch 4 2;").sides(), -1);
    }

    private static void placings() {
        Kit.due("21: no town", new OddTouch().placings(), 1);
        Kit.due("21: no things", Kit.town("places 3;").placings(), 1);
        Kit.due("21: one thing", Kit.town("places 3;thing 1 count 1;").placings(), 3);
        Kit.due("21: two odd ones", Kit.town(PATH + "thing 0 count 1;thing 1 count 1;").placings(), 2);
        Kit.due("21: two that may", Kit.town(PATH + "thing 0 count 1;thing 1 count 2;").placings(), 6);
        Kit.due("21: one stays",
            Kit.town(PATH + "thing 0 count 1 stays;thing 1 count 1;").placings(), 1);
        Kit.due("21: one stays in the middle",
            Kit.town(PATH + "thing 1 count 1 stays;thing 0 count 1;").placings(), 0);
        Kit.due("21: both stay and clash",
            Kit.town(PATH + "thing 1 count 1 stays;thing 0 count 1 stays;").placings(), 0);
        Kit.due("21: by a law of walls", Kit.town("places 3;touch 0 1 wall;touch 1 2;"
            + "thing 0 count 1;thing 1 count 1;law wall=1;").placings(), 4);
    }

    private static String eight(String more) {
        StringBuilder s = new StringBuilder("places 10;" + more);
        for (int t = 0; t < 8; t++) {
            s.append("thing " + t + " count 1;");
        }
        return s.toString();
    }

    private static void manyPlacings() {
        OddTouch x = Kit.town(eight("touch 0 1;law 1=1;"));
        Kit.due("21: ten over eight", x.placings(), 1814400);
        Kit.due("22: the last of all", x.placing(1814399, 7), 2);
        Kit.due("22: the last of all", x.placing(1814399, 0), 9);
        Kit.due("22: beyond", x.placing(1814400, 0), -1);
        Kit.due("22: far beyond", x.placing(Integer.MAX_VALUE, 0), -1);
        Kit.due("22: one in the middle", x.placing(907200, 0), 5);
        OddTouch odd = Kit.town(eight("touch 0 1;"));
        Kit.due("21: all but those at 0 and 1", odd.placings(), 1814400 - 56 * 20160);
        Kit.due("22: the first", odd.placing(0, 1), 2);
    }

    private static void placing() {
        OddTouch x = Kit.town(PATH + "thing 0 count 1;thing 1 count 1;thing 2 count 2;");
        int[][] want = {{0, 2, 1}, {2, 0, 1}};
        for (int k = 0; k < 2; k++) {
            for (int t = 0; t < 3; t++) {
                Kit.due("22: placing(" + k + ", " + t + ")", x.placing(k, t), want[k][t]);
            }
        }
        Kit.due("22: not so many", x.placing(2, 0), -1);
        Kit.dueThrow(x, "22: below 0", () -> x.placing(-1, 0), IllegalArgumentException.class);
        Kit.dueThrow(x, "22: no such thing", () -> x.placing(-1, 3), NoSuchElementException.class);
        Kit.dueThrow(x, "22: no such thing", () -> x.placing(0, -1), NoSuchElementException.class);
    }

    private static void mends(String text, int moved, int minutes, int... places) {
        OddTouch x = Kit.town(text);
        Kit.due("23: how many, " + text, x.mending(0), moved);
        Kit.due("23: minutes, " + text, x.mending(1), minutes);
        for (int t = 0; t < places.length; t++) {
            Kit.due("23: place of " + t + ", " + text, x.mending(10 + t), places[t]);
        }
    }

    private static void mending() {
        String fork = "places 4;touch 0 1;touch 1 2;touch 0 3;";
        mends(PATH + "thing 0 count 1;thing 1 count 2;", 0, 0, 0, 1);
        mends(PATH + "thing 0 count 1 slow 9;thing 1 count 1 slow 2;", 1, 2, 0, 2);
        mends(fork + "thing 0 count 1 slow 3;thing 1 count 1;", 1, 1, 0, 2);
        mends(fork + "thing 0 count 1 slow 3;thing 1 count 1 slow 3;", 1, 3, 0, 2);
        mends(fork + "thing 0 count 1 slow 3;thing 1 count 1 slow 4;", 1, 3, 3, 1);
        mends(fork + "thing 0 count 1 stays;thing 1 count 1 slow 4;", 1, 4, 0, 2);
        mends(fork + "thing 0 count 1 stays;thing 1 count 1 stays;", -1, -1, -1, -1);
        mends("places 3;touch 0 1;thing 0 count 1;thing 1 count 1;", -1, -1, -1, -1);
        mends(PATH + "thing 0 count 1;thing 1 count 1;thing 2 count 2;", 2, 2, 0, 2, 1);
        OddTouch x = Kit.town(PATH + "thing 0 count 1;thing 1 count 1;");
        for (int bad : new int[] {-1, 2, 9, 12, Integer.MAX_VALUE, Integer.MIN_VALUE}) {
            Kit.dueThrow(x, "23: another what", () -> x.mending(bad), IllegalArgumentException.class);
        }
        Kit.due("23: without a town", new OddTouch().mending(0), 0);
    }

    private static void mend() {
        OddTouch x = Kit.town(PATH + "thing 0 count 1;thing 1 count 1;");
        Kit.due("24: how many", x.mend(), 1);
        Kit.due("24: it lies there", x.thing(1, 0), 2);
        Kit.due("24: no clash", x.clashes(), 0);
        Kit.due("24: no time", x.count(5), 0);
        Kit.due("24: no pain", x.count(6), 0);
        Kit.due("24: nothing to mend", x.mend(), 0);
        Kit.due("24: each a deed", x.count(7), 2);
        x.undo(2);
        Kit.due("24: undone", x.thing(1, 0), 1);
        OddTouch none = Kit.town("places 2;touch 0 1;thing 0 count 1;thing 1 count 1;");
        Kit.dueThrow(none, "24: no placing", () -> none.mend(), IllegalStateException.class);
    }

    private static void flip(String text, int many, int set) {
        OddTouch x = Kit.town(text);
        String before = Kit.stateOf(x);
        Kit.due("25: how many, " + text, x.flips(0), many);
        Kit.due("25: which, " + text, x.flips(1), set);
        Kit.due("25: nothing changes, " + text, Kit.stateOf(x), before);
    }

    private static void flips() {
        String two = "places 2;touch 0 1;";
        flip(two + "thing 0 count 1;thing 1 count 2;", 0, 0);
        flip(two + "thing 0 count 1;thing 1 count 1;", 1, 1);
        flip("places 3;touch 0 1;touch 1 2;touch 2 0;"
            + "thing 0 count 1;thing 1 count 1;thing 2 count 1;", 2, 3);
        flip(PATH + "thing 0 count 1;thing 1 count 1;thing 2 count 1;", 1, 2);
        flip(two + "thing 0 count 99;thing 1 count 1;law a=98;", 1, 1);
        flip(two + "thing 0 count 98;thing 1 count 1;law a=99 and b=2;", 2, 3);
        flip(two + "thing 0 count 98 stays;thing 1 count 1;law a=99;", 1, 1);
        flip(two + "thing 0 count 99;thing 1 count 1;law 1=2;", -1, -1);
        OddTouch x = Kit.town(two);
        Kit.dueThrow(x, "25: another what", () -> x.flips(2), IllegalArgumentException.class);
        Kit.dueThrow(x, "25: another what", () -> x.flips(-1), IllegalArgumentException.class);
    }
}
