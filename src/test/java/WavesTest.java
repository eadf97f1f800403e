import java.util.NoSuchElementException;

/** Promises 26 to 29 and 33 to 35: waves, calm orders, events, pleasure, rests and drifts. */
final class WavesTest {

    /** Any two that touch clash. */
    private static final String NEVER = "law 1=2;";

    public static void main(String[] args) {
        whoGivesWay();
        whereTo();
        goWave();
        calm();
        event();
        pleasure();
        rest();
        drift();
        Kit.end("WavesTest");
    }

    private static void wave(String text, int moves, int minutes, int clashes) {
        OddTouch x = Kit.town(text);
        String before = Kit.stateOf(x);
        Kit.due("26: moves, " + text, x.wave(0), moves);
        Kit.due("26: minutes, " + text, x.wave(1), minutes);
        Kit.due("26: clashes, " + text, x.wave(2), clashes);
        Kit.due("26: as if it went, " + text, Kit.stateOf(x), before);
    }

    /** Two in the middle of a path 2 0 1 3: which one moves, and where to. */
    private static void gives(String first, String second, int who) {
        String text = "places 4;touch 2 0;touch 0 1;touch 1 3;thing 0 count " + first
            + ";thing 1 count " + second + ";" + NEVER;
        OddTouch x = Kit.town(text);
        Kit.due("27: one move, " + text, x.goWave(), 1);
        Kit.due("27: the first one, " + text, x.thing(0, 0), who == 0 ? 2 : 0);
        Kit.due("27: the second one, " + text, x.thing(1, 0), who == 1 ? 3 : 1);
    }

    private static void whoGivesWay() {
        gives("2", "1", 0);
        gives("1", "2", 1);
        gives("1", "1", 1);
        gives("2", "2", 1);
        gives("1", "1 slow 2", 0);
        gives("1", "2 slow 2", 0);
        gives("2 slow 2", "1", 1);
        gives("2 stays", "1 slow 9", 1);
        gives("1 slow 9", "2 stays", 0);
        gives("0;zero neither", "2", 1);
        gives("0;zero both", "1", 0);
        gives("0;zero odd", "2", 1);
        gives("0;zero both", "2", 1);
    }

    private static void whereTo() {
        wave("places 4;touch 0 1;touch 1 2;thing 0 count 1;thing 1 count 1 slow 3;", 1, 3, 0);
        wave("places 2;touch 0 1;thing 0 count 1;thing 1 count 1;", 0, 0, 1);
        wave("places 3;touch 0 1;touch 1 2;thing 0 count 1 stays;thing 1 count 1 stays;", 0, 0, 1);
        wave("places 3;touch 0 1;touch 1 2;thing 0 count 1;thing 1 count 2;", 0, 0, 0);
        OddTouch near = Kit.town("places 5;touch 0 1;touch 0 3;touch 0 2;touch 3 4;"
            + "thing 0 count 1;thing 1 count 1 stays;");
        Kit.due("27: the first of like ones", near.goWave(), 1);
        Kit.due("27: place 2", near.thing(0, 0), 2);
        OddTouch far = Kit.town("places 4;touch 0 1;touch 1 2;touch 2 3;"
            + "thing 1 count 1;thing 0 count 1 stays;thing 3 count 1 stays;");
        Kit.due("26: nowhere without a clash", far.wave(0), 0);
        Kit.due("26: it ends", far.wave(2), 1);
        OddTouch two = Kit.town("places 6;touch 0 1;touch 2 3;touch 1 4;touch 3 5;"
            + "thing 0 count 1;thing 1 count 1;thing 2 count 1;thing 3 count 1;");
        Kit.due("26: as long as there are clashes", two.wave(0), 2);
        Kit.due("27: it goes", two.goWave(), 2);
        Kit.due("27: minutes", two.count(5), 2);
        Kit.due("27: pain grows less", two.count(6), 3);
        Kit.due("27: the first two first", two.thing(1, 0), 4);
        OddTouch stuck = Kit.town("places 6;touch 0 1;touch 2 3;touch 3 5;"
            + "thing 0 count 1;thing 1 count 1;thing 2 count 1;thing 3 count 1;");
        Kit.due("26: the first two can't, so it ends", stuck.wave(0), 0);
    }

    private static void goWave() {
        OddTouch x = Kit.town("places 3;touch 0 1;touch 1 2;thing 0 count 1;thing 1 count 1 slow 5;");
        Kit.due("27: moves", x.goWave(), 1);
        Kit.due("27: time", x.count(5), 5);
        Kit.due("27: pain", x.count(6), 5);
        Kit.due("27: nothing moves", x.goWave(), 0);
        Kit.due("27: a deed all the same", x.count(7), 2);
        x.undo(2);
        Kit.due("27: undone", x.thing(1, 0), 1);
        Kit.due("27: no time then", x.count(5), 0);
        for (int bad : new int[] {-1, 3, Integer.MAX_VALUE}) {
            Kit.dueThrow(x, "26: another what", () -> x.wave(bad), IllegalArgumentException.class);
        }
    }

    private static void order(OddTouch x, int clashes, int... events) {
        Kit.due("28: clashes", x.calm(0), clashes);
        for (int k = 0; k < 6; k++) {
            Kit.due("28: calm(" + (10 + k) + ")", x.calm(10 + k), k < events.length ? events[k] : -1);
        }
    }

    private static void calm() {
        String two = "places 2;touch 0 1;";
        OddTouch x = Kit.town(two + "thing 0 count 1;thing 1 count 2;event 10 thing 1 more 1;"
            + "event 20 thing 0 more 1;");
        String before = Kit.stateOf(x);
        order(x, 0, 1, 0);
        Kit.due("28: nothing changes", Kit.stateOf(x), before);
        x.change(0, 1);
        order(x, 1, 0, 1);
        order(Kit.town(two), 0);
        order(Kit.town(two + "thing 0 count 1;thing 1 count 1;event 9 thing 0 more 2;"
            + "event 9 thing 1 more 2;event 1 thing 0 less 1;"), 0, 2, 0, 1);
        order(Kit.town(two + "thing 0 count 99;thing 1 count 1;event 9 thing 0 more 9;"
            + "event 9 thing 0 less 9;event 9 thing 1 more 8;law a<99 and b<10;"), 1, 0, 1, 2);
        order(Kit.town(two + "thing 0 count 9;thing 1 count 1;event 9 thing 0 more 1;"
            + "event 8 thing 0 more 1;event 7 thing 0 more 1;event 6 thing 0 more 1;"
            + "event 5 thing 0 more 1;event 4 thing 0 more 1;"), 3, 0, 1, 2, 3, 4, 5);
        for (int bad : new int[] {-1, 1, 9, 16, Integer.MAX_VALUE, Integer.MIN_VALUE}) {
            Kit.dueThrow(x, "28: another what", () -> x.calm(bad), IllegalArgumentException.class);
        }
    }

    private static void event() {
        OddTouch x = Kit.town("places 2;thing 0 count 1;thing 1 count 2;event 999 thing 1 more 9;"
            + "event 0 thing 0 less 1;");
        int[][] want = {{999, 1, 9}, {0, 0, -1}};
        for (int e = 0; e < 2; e++) {
            for (int what = 0; what <= 2; what++) {
                Kit.due("29: event(" + e + ", " + what + ")", x.event(e, what), want[e][what]);
            }
        }
        Kit.dueThrow(x, "29: no such event", () -> x.event(2, 3), NoSuchElementException.class);
        Kit.dueThrow(x, "29: no such event", () -> x.event(-1, 0), NoSuchElementException.class);
        Kit.dueThrow(x, "29: another what", () -> x.event(0, 3), IllegalArgumentException.class);
        Kit.dueThrow(x, "29: another what", () -> x.event(0, -1), IllegalArgumentException.class);
    }

    private static final String STAR = "places 6;touch 0 1;touch 0 2;touch 0 3 wall;touch 3 4;"
        + "thing 1 count 2;thing 2 count 4;thing 4 count 1;thing 3 count 3;";

    private static void pleasure() {
        OddTouch x = Kit.town(STAR);
        int[][] want = {{0, 0, 4}, {0, 1, 0}, {0, 5, 0}, {2, 4, -3}, {2, 0, 1}, {2, 5, 0}, {1, 2, 0}};
        for (int[] w : want) {
            Kit.due("33: pleasure(" + w[0] + ", " + w[1] + ")", x.pleasure(w[0], w[1]), w[2]);
        }
        Kit.dueThrow(x, "33: another lies there", () -> x.pleasure(0, 2), IllegalStateException.class);
        Kit.dueThrow(x, "33: no such place", () -> x.pleasure(0, 6), NoSuchElementException.class);
        Kit.dueThrow(x, "33: no such thing", () -> x.pleasure(4, 0), NoSuchElementException.class);
        Kit.dueThrow(x, "33: no such thing", () -> x.pleasure(-1, 2), NoSuchElementException.class);
        OddTouch stays = Kit.town("places 3;touch 0 1;touch 1 2;thing 0 count 1 stays;thing 2 count 1;");
        Kit.due("33: one that stays, elsewhere", stays.pleasure(0, 1), -3);
    }

    private static void rest() {
        Kit.due("34: without a town", new OddTouch().atRest(), true);
        Kit.due("34: not", Kit.town(STAR).atRest(), false);
        String pair = "places 4;touch 0 1;touch 1 2;touch 2 3;thing 0 count 2";
        Kit.due("34: nearer would be more", Kit.town(pair + ";thing 3 count 2;").atRest(), false);
        Kit.due("34: one may still", Kit.town(pair + " stays;thing 3 count 2;").atRest(), false);
        Kit.due("34: who stays can't", Kit.town(pair + " stays;thing 3 count 2 stays;").atRest(), true);
        Kit.due("34: side by side", Kit.town(pair + ";thing 1 count 2;").atRest(), true);
        Kit.due("34: no way", Kit.town("places 3;touch 0 1;thing 0 count 2;thing 2 count 2;").atRest(), true);
    }

    private static void drift() {
        OddTouch x = Kit.town(STAR);
        Kit.due("35: moves", x.drift(), 2);
        int[] places = {0, 2, 1, 3};
        for (int t = 0; t < 4; t++) {
            Kit.due("35: place of " + t, x.thing(t, 0), places[t]);
        }
        Kit.due("35: no time", x.count(5), 0);
        Kit.due("35: no pain", x.count(6), 0);
        Kit.due("35: at rest then", x.atRest(), true);
        Kit.due("35: nothing moves", x.drift(), 0);
        Kit.due("35: a deed all the same", x.count(7), 2);
        x.undo(2);
        Kit.due("35: undone", x.thing(0, 0), 1);
        OddTouch like = Kit.town("places 5;touch 0 1;touch 0 2;touch 3 0;touch 3 4;"
            + "thing 0 count 2 stays;thing 4 count 2;");
        Kit.due("35: one move", like.drift(), 1);
        Kit.due("35: the first of like ones", like.thing(1, 0), 1);
        OddTouch most = Kit.town("places 5;touch 0 1;touch 1 2;touch 2 3;touch 3 4;touch 4 2;"
            + "thing 0 count 2;thing 3 count 4 stays;thing 4 count 2 stays;");
        Kit.due("35: where it has most", most.drift(), 1);
        Kit.due("35: place 2", most.thing(0, 0), 2);
    }
}
