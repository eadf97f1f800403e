import java.util.NoSuchElementException;

/** Promises 11 to 18: deeds made, undone, judged, told and drawn. */
final class DeedsTest {

    private static final String TOWN = "places 5;touch 0 1;touch 1 2 wall;touch 2 3;"
        + "thing 0 count 1;thing 1 count 3 slow 4;thing 3 count 98 stays;"
        + "event 400 thing 1 more 1;event 400 thing 0 less 9;event 100 thing 2 more 9;";

    public static void main(String[] args) {
        change();
        why();
        move();
        days();
        eventsInOrder();
        undo();
        judge();
        perform();
        season();
        Kit.end("DeedsTest");
    }

    private static void change() {
        OddTouch x = Kit.town(TOWN);
        Kit.due("11: less", x.change(0, -1), 0);
        Kit.due("11: cut at 0", x.change(0, -5), 0);
        Kit.due("11: cut at 99", x.change(1, 99), 99);
        Kit.due("11: cut at 99 again", x.change(1, 1), 99);
        Kit.due("11: one that stays", x.change(2, -99), 0);
        Kit.due("11: by nothing", x.change(0, 0), 0);
        Kit.due("11: as it is then", x.thing(1, 1), 99);
        Kit.due("11: takes no time", x.count(5), 0);
        Kit.due("11: each is a deed", x.count(7), 6);
        Kit.dueThrow(x, "11: by 100", () -> x.change(0, 100), IllegalArgumentException.class);
        Kit.dueThrow(x, "11: by -100", () -> x.change(0, -100), IllegalArgumentException.class);
        Kit.dueThrow(x, "11: by the least", () -> x.change(0, Integer.MIN_VALUE),
            IllegalArgumentException.class);
        Kit.dueThrow(x, "11: no such thing", () -> x.change(3, 100), NoSuchElementException.class);
        Kit.dueThrow(x, "11: no such thing", () -> x.change(-1, 1), NoSuchElementException.class);
    }

    private static void why() {
        OddTouch x = Kit.town(TOWN);
        int[][] want = {{0, 2, 0}, {0, 1, 3}, {0, 0, 3}, {2, 2, 2}, {2, 3, 2}, {2, 4, 2}, {0, 4, 4},
            {3, 0, 1}, {0, 5, 1}, {-1, -1, 1}, {2, 9, 1}, {Integer.MAX_VALUE, 2, 1},
            {1, Integer.MIN_VALUE, 1}, {1, 2, 0}};
        String before = Kit.stateOf(x);
        for (int[] w : want) {
            Kit.due("12: why(" + w[0] + ", " + w[1] + ")", x.why(w[0], w[1]), w[2]);
        }
        Kit.due("12: nothing happens", Kit.stateOf(x), before);
    }

    private static void move() {
        OddTouch x = Kit.town(TOWN);
        Kit.due("13: steps times slow", x.move(1, 2), 4);
        Kit.due("13: time", x.count(5), 4);
        Kit.due("13: pain by clashes ahead of it", x.count(6), 4);
        Kit.due("13: it lies there", x.place(2, 0), 1);
        Kit.due("13: its place is empty", x.place(1, 0), -1);
        Kit.due("13: no clashes", x.clashes(), 0);
        Kit.due("13: to where clashes begin", x.move(0, 1), 1);
        Kit.due("13: no pain ahead of it", x.count(6), 4);
        Kit.due("13: a clash through a wall", x.clashes(), 1);
        String before = Kit.stateOf(x);
        int[][] cannot = {{3, 0, -1}, {0, 5, -1}, {2, 0, -2}, {0, 1, -3}, {0, 2, -3}, {0, 4, -4}};
        for (int[] c : cannot) {
            Kit.due("13: move(" + c[0] + ", " + c[1] + ")", x.move(c[0], c[1]), c[2]);
        }
        Kit.due("13: nothing happens then", Kit.stateOf(x), before);
        Kit.due("13: two deeds", x.count(7), 2);
    }

    private static void days() {
        OddTouch x = Kit.town(TOWN);
        Kit.due("14: pain till minute 400", x.days(1), 400);
        Kit.due("14: time", x.count(5), 1000);
        Kit.due("14: pain", x.count(6), 400);
        Kit.due("14: less, cut", x.thing(0, 1), 0);
        Kit.due("14: more", x.thing(1, 1), 4);
        Kit.due("14: more, cut", x.thing(2, 1), 99);
        Kit.due("14: no pain any more", x.days(2), 0);
        Kit.due("14: each day once", x.thing(1, 1), 6);
        Kit.due("14: each day is a deed", x.count(7), 3);
        Kit.due("14: undone by days", x.undo(2), 1);
        Kit.due("14: time then", x.count(5), 1000);
        Kit.due("14: the count then", x.thing(1, 1), 4);
        x.undo(1);
        x.move(1, 2);
        Kit.due("14: a day begins at any time", x.days(9), 300 + 4 * 600 + 4 * 400);
        Kit.due("14: its end", x.count(5), 9004);
        for (int bad : new int[] {0, 10, -1, Integer.MAX_VALUE}) {
            Kit.dueThrow(x, "14: n", () -> x.days(bad), IllegalArgumentException.class);
        }
    }

    private static void eventsInOrder() {
        OddTouch alike = Kit.town("places 1;thing 0 count 95;event 5 thing 0 more 9;event 5 thing 0 less 9;");
        alike.days(1);
        Kit.due("14: like minutes by numbers", alike.thing(0, 1), 90);
        OddTouch unlike = Kit.town("places 1;thing 0 count 95;event 600 thing 0 more 9;event 5 thing 0 less 9;");
        unlike.days(1);
        Kit.due("14: by minutes", unlike.thing(0, 1), 95);
        OddTouch edges = Kit.town("places 2;touch 0 1;thing 0 count 1;thing 1 count 2;"
            + "event 999 thing 0 more 1;event 0 thing 1 more 1;");
        Kit.due("14: from minute 0 to 999", edges.days(1), 999);
        Kit.due("14: the next day", edges.days(1), 0);
    }

    private static void undo() {
        OddTouch x = Kit.town("places 2;touch 0 1;thing 0 count 0;");
        for (int i = 1; i <= 13; i++) {
            x.change(0, 1);
        }
        Kit.due("15: twelve at most", x.count(7), 12);
        Kit.dueThrow(x, "15: n 13", () -> x.undo(13), IllegalArgumentException.class);
        Kit.dueThrow(x, "15: n 0", () -> x.undo(0), IllegalArgumentException.class);
        Kit.dueThrow(x, "15: n below", () -> x.undo(-1), IllegalArgumentException.class);
        Kit.due("15: how many still can be", x.undo(3), 9);
        Kit.due("15: the latest first", x.thing(0, 1), 10);
        Kit.dueThrow(x, "15: not so many", () -> x.undo(10), IllegalArgumentException.class);
        x.move(0, 1);
        Kit.due("15: another deed", x.count(7), 10);
        Kit.due("15: all", x.undo(10), 0);
        Kit.due("15: the eldest is forgotten", x.thing(0, 1), 1);
        Kit.due("15: its place", x.thing(0, 0), 0);
        Kit.due("15: its time", x.count(5), 0);
        Kit.dueThrow(x, "15: none left", () -> x.undo(1), IllegalArgumentException.class);
        OddTouch y = Kit.town("places 3;touch 0 1;touch 1 2;thing 0 count 1;thing 1 count 1;");
        String before = Kit.stateOf(y);
        y.mend();
        y.undo(1);
        y.goWave();
        y.undo(1);
        y.drift();
        y.undo(1);
        y.days(1);
        y.undo(1);
        Kit.due("15: whatever the deed", Kit.stateOf(y), before);
    }

    private static void told(OddTouch x, int at, int why, int time, int clashes) {
        String before = Kit.stateOf(x);
        Kit.due("16: where", x.judge(0, 0), at);
        Kit.due("16: why", x.judge(0, 1), why);
        Kit.due("16: time", x.judge(0, 2), time);
        Kit.due("16: clashes", x.judge(0, 3), clashes);
        Kit.due("16: as if made", Kit.stateOf(x), before);
    }

    private static void judge() {
        OddTouch x = Kit.town(TOWN);
        x.move(0, 2);
        x.undo(1);
        Kit.fill(x, 0);
        told(x, -1, 0, 0, 1);
        Kit.fill(x, 0, 12, 101, 203, -1);
        told(x, -1, 0, 1004, 0);
        Kit.fill(x, 0, 12, 121);
        told(x, -1, 0, 4, 1);
        Kit.fill(x, 0, 12, 12, 101);
        told(x, 1, 3, 4, 0);
        Kit.fill(x, 0, 12, 10, 1);
        told(x, 1, 3, 4, 0);
        Kit.fill(x, 0, 12, 11, 12, 0);
        told(x, 3, 3, 12, 0);
        long[] cannot = {100, 110, 200, 131, 231, 199, 299, 300, -2, 5, 30, 80, 99, Long.MAX_VALUE,
            Long.MIN_VALUE, 1L << 32, (1L << 32) - 1};
        for (long v : cannot) {
            Kit.fill(x, 0, -1, v);
            told(x, 1, 1, 1000, 0);
        }
        Kit.fill(x, 0, 20, 1);
        told(x, 0, 2, 0, 1);
        Kit.fill(x, 0, 4);
        told(x, 0, 4, 0, 1);
        Kit.dueThrow(x, "16: another what", () -> x.judge(0, 4), IllegalArgumentException.class);
        Kit.dueThrow(x, "16: another what", () -> x.judge(0, -1), IllegalArgumentException.class);
        Kit.dueThrow(x, "16: missing", () -> x.judge(1, 9), IllegalStateException.class);
        Kit.dueThrow(x, "16: no such tray", () -> x.judge(4, 9), NoSuchElementException.class);
        Kit.dueThrow(x, "16: no such tray", () -> x.judge(-1, 0), NoSuchElementException.class);
    }

    private static void perform() {
        OddTouch x = Kit.town(TOWN);
        Kit.fill(x, 0, 12, 121, 12, 101);
        Kit.due("17: till one can't be", x.perform(0), 2);
        Kit.due("17: each a deed", x.count(7), 2);
        Kit.due("17: time", x.count(5), 4);
        Kit.due("17: a move", x.thing(1, 0), 2);
        Kit.due("17: a count", x.thing(2, 1), 99);
        Kit.due("17: what comes behind is not made", x.thing(0, 1), 1);
        x.undo(1);
        Kit.due("17: undone one by one", x.thing(2, 1), 98);
        Kit.fill(x, 1, 201, 201, -1);
        Kit.due("17: all", x.perform(1), 3);
        Kit.due("17: a day", x.count(5), 1004);
        Kit.fill(x, 2);
        Kit.due("17: none told", x.perform(2), 0);
        long[] many = new long[30];
        java.util.Arrays.fill(many, 101);
        Kit.fill(x, 2, many);
        Kit.due("17: thirty", x.perform(2), 30);
        Kit.due("17: twelve can be undone", x.count(7), 12);
        Kit.due("17: the count", x.thing(0, 1), 30);
        Kit.dueThrow(x, "17: missing", () -> x.perform(3), IllegalStateException.class);
        Kit.dueThrow(x, "17: no such tray", () -> x.perform(4), NoSuchElementException.class);
    }

    private static void season() {
        int[][] want = {
            {0, 7, 1, 3, 9, 99, 4001}, {1, 7, 0, 2, 8, 90, 2008}, {7, 6, 2, 1, 19, 98, 1006},
            {-1, 8, 0, 1, 11, 99, 3004}, {2147483647, 8, 3, 2, 11, 95, 4005},
            {123456789, 6, 0, 3, 16, 99, 4000}};
        for (int[] w : want) {
            OddTouch x = Kit.town("places 4;touch 0 1;touch 1 2;touch 2 3;thing 0 count 1;"
                + "thing 3 count 90 slow 2;event 10 thing 0 more 2;");
            String label = "18: season(" + w[0] + ", 8)";
            Kit.due(label, x.season(w[0], 8), w[1]);
            Kit.due(label + ", first place", x.thing(0, 0), w[2]);
            Kit.due(label + ", second place", x.thing(1, 0), w[3]);
            Kit.due(label + ", first count", x.thing(0, 1), w[4]);
            Kit.due(label + ", second count", x.thing(1, 1), w[5]);
            Kit.due(label + ", time", x.count(5), w[6]);
            Kit.due(label + ", each a deed", x.count(7), w[1]);
        }
        OddTouch x = Kit.town("places 1;thing 0 count 1;");
        for (int bad : new int[] {0, 31, -1, Integer.MIN_VALUE}) {
            Kit.dueThrow(x, "18: times", () -> x.season(1, bad), IllegalArgumentException.class);
        }
        OddTouch none = Kit.town("places 3;touch 0 1;");
        Kit.dueThrow(none, "18: no things", () -> none.season(1, 1), IllegalStateException.class);
        Kit.dueThrow(none, "18: times first", () -> none.season(1, 0), IllegalArgumentException.class);
        Kit.due("18: thirty", x.season(5, 30) >= 0, true);
    }
}
