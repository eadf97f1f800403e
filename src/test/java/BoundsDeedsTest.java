import java.math.BigInteger;

/** COUNTS, MOVES, DAYS, DEEDS, TOLD DEEDS, SEASONS (promises 11 to 18): both sides of each bound. */
final class BoundsDeedsTest {

    private static final String TOWN = "places 6;touch 0 1;touch 1 2;touch 3 4;thing 0 count 1;"
        + "thing 1 count 3 stays;thing 3 count 2 stays;thing 4 count 98;";

    public static void main(String[] args) {
        change();
        cutCounts();
        why();
        move();
        minutes();
        timeAndPain();
        days();
        aDay();
        undo();
        whatIsADeed();
        allOfIt();
        eldest();
        toldDeeds();
        judge();
        perform();
        season();
        draws();
        Kit.end("BoundsDeedsTest");
    }

    private static OddTouch town() {
        OddTouch x = Kit.town(TOWN);
        x.change(0, 2);
        x.image(2);
        return x;
    }

    private static OddTouch withTray(String text, long... numbers) {
        OddTouch x = Kit.town(text);
        Kit.fill(x, 0, numbers);
        return x;
    }

    /** Eight things in a line of ten places. */
    private static String line() {
        StringBuilder s = new StringBuilder("places 10;");
        for (int p = 0; p < 9; p++) {
            s.append("touch " + p + " " + (p + 1) + ";");
        }
        for (int t = 0; t < 8; t++) {
            s.append("thing " + t + " count 50;");
        }
        return s.toString();
    }

    // ---- counts

    private static void change() {
        Kit.sentence("Its COUNT is by so much more (-99 to 99): what it is then. "
            + "IllegalArgumentException: by how much.");
        for (int by : new int[] {-100, 100, Integer.MIN_VALUE, Integer.MAX_VALUE}) {
            Kit.refused(BoundsDeedsTest::town, "by " + by, x -> x.change(0, by), Kit.ARGUMENT);
        }
        for (int t : new int[] {-1, 4, 8, Integer.MIN_VALUE, Integer.MAX_VALUE}) {
            Kit.refused(BoundsDeedsTest::town, "thing " + t, x -> x.change(t, 1), Kit.NO_SUCH);
            Kit.refused(BoundsDeedsTest::town, "told first, thing " + t, x -> x.change(t, 100), Kit.NO_SUCH);
        }
        OddTouch x = Kit.town("places 1;thing 0 count 0;");
        Kit.due("by 99", x.change(0, 99), 99);
        Kit.due("as it is then", x.thing(0, 1), 99);
        Kit.due("by -99", x.change(0, -99), 0);
        Kit.due("as it is then", x.thing(0, 1), 0);
        Kit.due("the last thing", town().change(3, -98), 0);
    }

    private static void cutCounts() {
        Kit.sentence("COUNTS stay within 0 and 99: what goes beyond is cut there.");
        int[][] want = {{98, 1, 99}, {98, 2, 99}, {99, 1, 99}, {99, 99, 99}, {1, -1, 0}, {1, -2, 0},
            {0, -1, 0}, {0, -99, 0}, {50, 49, 99}, {50, 50, 99}, {50, -50, 0}, {50, -51, 0}};
        for (int[] w : want) {
            OddTouch x = Kit.town("places 1;thing 0 count " + w[0] + ";");
            Kit.due(w[0] + " by " + w[1], x.change(0, w[1]), w[2]);
            Kit.due(w[0] + " by " + w[1] + ", then", x.thing(0, 1), w[2]);
        }
        int[][] nine = {{90, 99, 81}, {91, 99, 82}, {9, 18, 0}, {8, 17, 0}, {99, 99, 90}, {0, 9, 0}};
        for (int[] n : nine) {
            String thing = "places 1;thing 0 count " + n[0] + ";";
            OddTouch more = Kit.town(thing + "event 0 thing 0 more 9;");
            more.days(1);
            Kit.due(n[0] + " by an event", more.thing(0, 1), n[1]);
            OddTouch less = Kit.town(thing + "event 0 thing 0 less 9;");
            less.days(1);
            Kit.due(n[0] + " by an event, less", less.thing(0, 1), n[2]);
            OddTouch told = withTray(thing, 109);
            told.perform(0);
            Kit.due(n[0] + " as told", told.thing(0, 1), n[1]);
            OddTouch toldLess = withTray(thing, 209);
            toldLess.perform(0);
            Kit.due(n[0] + " as told, less", toldLess.thing(0, 1), n[2]);
        }
        OddTouch drawn = Kit.town("places 1;thing 0 count 99;");
        drawn.season(1, 30);
        Kit.due("99 by a season", drawn.thing(0, 1), 99);
    }

    // ---- moves

    private static final int[][] WHY = {{0, 2, 0}, {3, 5, 4}, {0, 0, 3}, {0, 1, 3}, {0, 3, 3}, {3, 1, 3},
        {0, 5, 4}, {1, 1, 2}, {1, 0, 2}, {1, 2, 2}, {1, 5, 2}, {2, 3, 2}, {4, 0, 1}, {0, 6, 1}, {1, 6, 1},
        {4, 6, 1}, {-1, 2, 1}, {0, -1, 1}, {8, 2, 1}, {0, 10, 1}, {Integer.MIN_VALUE, 0, 1},
        {0, Integer.MAX_VALUE, 1}};

    private static void why() {
        Kit.sentence("it can't be, the least of: 1 no such THING, PLACE; 2 it stays; 3 the PLACE isn't empty "
            + "(its own is not); 4 there is no way.");
        for (int[] w : WHY) {
            Kit.asked(BoundsDeedsTest::town, "why(" + w[0] + ", " + w[1] + ")", x -> x.why(w[0], w[1]), w[2]);
        }
        Kit.asked(OddTouch::new, "nothing at all", x -> x.why(0, 0), 1);
    }

    private static void move() {
        Kit.sentence("A MOVE: MINUTES; below 0: less why it can't be (nothing happens).");
        for (int[] w : WHY) {
            if (w[2] != 0) {
                Kit.asked(BoundsDeedsTest::town, "move(" + w[0] + ", " + w[1] + ")",
                    x -> x.move(w[0], w[1]), -w[2]);
            }
        }
        OddTouch x = town();
        Kit.due("it can be", x.move(0, 2), 2);
        Kit.due("then it lies there", x.thing(0, 0), 2);
        Kit.due("and its own is empty", x.why(0, 0), 0);
        Kit.due("back again", x.move(0, 0), 2);
        Kit.due("both are deeds", x.count(7), 3);
    }

    private static void minutes() {
        Kit.sentence("takes MINUTES: STEPS times how SLOW it is");
        for (int slow = 1; slow <= 9; slow += 4) {
            for (int p = 1; p < 10; p += 4) {
                OddTouch x = Kit.town("places 10;touch 0 1;touch 1 2;touch 2 3;touch 3 4;touch 4 5;touch 5 6;"
                    + "touch 6 7 wall;touch 7 8;touch 8 9;thing 0 count 1 slow " + slow + ";thing 2 count 1;");
                Kit.due(p + " steps, slow " + slow, x.move(0, p), p * slow);
                Kit.due(p + " steps, slow " + slow + ", time", x.count(5), p * slow);
            }
        }
        OddTouch most = Kit.town("places 10;touch 0 1;touch 1 2;touch 2 3;touch 3 4;touch 4 5;touch 5 6;"
            + "touch 6 7;touch 7 8;touch 8 9;thing 9 count 1 slow 9;");
        Kit.due("nine steps, slow 9", most.move(0, 0), 81);
    }

    private static void timeAndPain() {
        Kit.sentence("PAIN (0 at first): whenever TIME goes on, MINUTES times CLASHES as they are ahead of it.");
        OddTouch x = Kit.town("places 4;touch 0 1;touch 1 2;touch 2 3;thing 0 count 1 slow 5;thing 2 count 1;"
            + "thing 3 count 1 stays;");
        Kit.due("0 at first", x.count(6), 0);
        Kit.sentence("TIME (0 at first) goes on by these MINUTES; then it lies there.");
        Kit.due("0 at first", x.count(5), 0);
        Kit.due("to where two clash", x.move(0, 1), 5);
        Kit.due("one clash ahead of it", x.count(6), 5);
        Kit.due("two behind it", x.clashes(), 2);
        Kit.due("away again", x.move(0, 0), 5);
        Kit.due("two ahead of it", x.count(6), 15);
        x.change(0, 1);
        x.change(1, 1);
        x.drift();
        x.mend();
        Kit.due("these take no time", x.count(5), 10);
        Kit.due("and no pain", x.count(6), 15);
    }

    // ---- days

    private static OddTouch two() {
        return Kit.town("places 2;touch 0 1;thing 0 count 1;thing 1 count 1;event 999 thing 0 less 2;");
    }

    private static void days() {
        Kit.sentence("n DAYS (1 to 9): PAIN of these. IllegalArgumentException: n.");
        for (int n : new int[] {0, 10, -1, Integer.MIN_VALUE, Integer.MAX_VALUE}) {
            Kit.refused(BoundsDeedsTest::two, n + " days", x -> x.days(n), Kit.ARGUMENT);
        }
        for (int n = 1; n <= 9; n++) {
            OddTouch x = Kit.town("places 2;touch 0 1;thing 0 count 1;thing 1 count 1;");
            Kit.due(n + " days", x.days(n), 1000 * n);
            Kit.due(n + " days, of these", x.days(n), 1000 * n);
            Kit.due(n + " days, time", x.count(5), 2000 * n);
            Kit.due(n + " days, pain", x.count(6), 2000 * n);
            Kit.due(n + " days, each a deed", x.count(7), Math.min(2 * n, 12));
        }
        OddTouch none = new OddTouch();
        Kit.due("of nobody", none.days(9), 0);
        Kit.due("time goes on", none.count(5), 9000);
    }

    private static void aDay() {
        Kit.sentence("A DAY: its EVENTS by minutes (like ones by numbers): TIME goes on from the day's beginning "
            + "to each, that one's COUNT changes; then to minute 1,000 of the day.");
        Kit.due("up to minute 999", two().days(1), 999);
        OddTouch first = Kit.town("places 2;touch 0 1;thing 0 count 1;thing 1 count 1;event 0 thing 0 less 1;");
        Kit.due("from minute 0 on", first.days(1), 0);
        OddTouch from = Kit.town("places 2;touch 0 1;thing 0 count 0;thing 1 count 1;event 0 thing 0 more 1;");
        Kit.due("all of its minutes", from.days(1), 1000);
        OddTouch last = Kit.town("places 2;touch 0 1;thing 0 count 0;thing 1 count 1;event 999 thing 0 more 1;");
        Kit.due("one minute", last.days(1), 1);
        Kit.due("time", last.count(5), 1000);
        OddTouch like = Kit.town("places 1;thing 0 count 99;event 7 thing 0 more 9;event 7 thing 0 less 9;");
        like.days(1);
        Kit.due("like ones by numbers", like.thing(0, 1), 90);
        OddTouch unlike = Kit.town("places 1;thing 0 count 99;event 8 thing 0 more 9;event 7 thing 0 less 9;");
        unlike.days(1);
        Kit.due("by minutes", unlike.thing(0, 1), 99);
        OddTouch three = Kit.town("places 2;touch 0 1;thing 0 count 5;thing 1 count 1;event 600 thing 0 more 4;"
            + "event 100 thing 0 less 9;event 300 thing 0 more 1;");
        Kit.due("5 to 100, 0 to 300, 1 to 600, 5", three.days(1), 100 + 300 + 400);
        Kit.due("5 again", three.thing(0, 1), 5);
        OddTouch down = Kit.town("places 1;thing 0 count 95;event 900 thing 0 less 3;event 750 thing 0 more 7;"
            + "event 600 thing 0 less 8;event 450 thing 0 more 9;event 300 thing 0 less 9;event 150 thing 0 more 9;");
        down.days(1);
        Kit.due("99 90 99 91 98 95", down.thing(0, 1), 95);
        OddTouch six = Kit.town("places 1;thing 0 count 50;event 5 thing 0 more 9;event 4 thing 0 more 9;"
            + "event 3 thing 0 more 9;event 2 thing 0 more 9;event 1 thing 0 more 9;event 0 thing 0 more 9;");
        six.days(1);
        Kit.due("all six, cut", six.thing(0, 1), 99);
        OddTouch begun = Kit.town("places 3;touch 0 1;touch 1 2;thing 0 count 1 slow 7;thing 1 count 1;"
            + "event 10 thing 0 more 1;");
        begun.move(0, 2);
        Kit.due("minutes of the day, not of all time", begun.days(1), 10);
        Kit.due("1,000 from its beginning", begun.count(5), 1014);
    }

    // ---- undone

    private static OddTouch changed(int many) {
        OddTouch x = Kit.town("places 2;touch 0 1;thing 0 count 0;thing 1 count 1;");
        for (int i = 0; i < many; i++) {
            x.change(0, 1);
        }
        return x;
    }

    private static void undo() {
        Kit.sentence("n DEEDS are UNDONE: how many still can be. IllegalArgumentException: n isn't 1 to 12, "
            + "there aren't so many.");
        for (int many : new int[] {0, 1, 11, 12, 13, 20}) {
            Kit.Maker maker = () -> changed(many);
            int can = Math.min(many, 12);
            for (int n : new int[] {0, -1, 13, can + 1, Integer.MIN_VALUE, Integer.MAX_VALUE}) {
                Kit.refused(maker, n + " of " + many, x -> x.undo(n), Kit.ARGUMENT);
            }
            for (int n = 1; n <= can; n++) {
                OddTouch x = maker.make();
                Kit.due(n + " of " + many, x.undo(n), can - n);
                Kit.due(n + " of " + many + ", then", x.thing(0, 1), many - n);
                Kit.due(n + " of " + many + ", left", x.count(7), can - n);
            }
        }
    }

    private static long moveAway(OddTouch x) {
        int p = 0;
        while (x.why(0, p) != 0) {
            p++;
        }
        return x.move(0, p);
    }

    private static void whatIsADeed() {
        Kit.sentence("DEEDS: a COUNT changed, a MOVE, a DAY, a MENDING, a WAVE, a DRIFT; each can be UNDONE, "
            + "the latest first");
        Kit.Use[] deeds = {x -> x.change(0, 1), BoundsDeedsTest::moveAway, x -> x.days(1), x -> x.mend(),
            x -> x.goWave(), x -> x.drift()};
        Kit.Maker maker = () -> Kit.town("places 4;touch 0 1;touch 1 2;touch 2 3;thing 0 count 1;"
            + "thing 1 count 1;event 5 thing 1 more 3;");
        for (int i = 0; i < deeds.length; i++) {
            for (int k = 0; k < deeds.length; k++) {
                OddTouch x = maker.make();
                String first = Kit.stateOf(x);
                deeds[i].on(x);
                String second = Kit.stateOf(x);
                deeds[k].on(x);
                Kit.due("deeds " + i + " " + k, x.count(7), 2);
                Kit.due("one undone, " + i + " " + k, x.undo(1), 1);
                Kit.due("as behind the first, " + i + " " + k, Kit.stateOf(x), second);
                Kit.due("both undone, " + i + " " + k, x.undo(1), 0);
                Kit.due("as at first, " + i + " " + k, Kit.stateOf(x), first);
            }
        }
    }

    private static OddTouch full() {
        OddTouch x = Kit.town(line().replace("touch 6 7;", "touch 6 7 wall;") + "law wall=0 and a+b<150;");
        x.days(3);
        x.change(7, 40);
        return x;
    }

    /** Of eight things nothing is lost: places, counts, whom they clash with, time, pain. */
    private static void allOfIt() {
        Kit.sentence("each can be UNDONE");
        OddTouch x = full();
        x.image(0);
        x.days(2);
        x.change(7, 9);
        x.change(0, -9);
        x.move(7, 9);
        x.undo(5);
        OddTouch y = full();
        y.image(0);
        Kit.due("eight, undone", Kit.restOf(x), Kit.restOf(y));
        OddTouch z = full();
        z.image(0);
        z.change(6, 9);
        z.move(0, 9);
        z.restore(0);
        y = full();
        y.image(0);
        Kit.due("eight, restored", Kit.restOf(z), Kit.restOf(y));
        OddTouch seven = full();
        seven.move(7, 8);
        seven.undo(1);
        Kit.due("whom the last one clashes with", seven.thing(7, 7), 1 << 6);
        Kit.due("through a wall", seven.clash(7, 6, true), true);
        Kit.due("without one", seven.clash(7, 6, false), false);
        Kit.due("pain", seven.count(6), 3000);
    }

    private static void eldest() {
        Kit.sentence("12 at most (eldest are forgotten)");
        for (int many = 11; many <= 26; many++) {
            OddTouch x = changed(many);
            Kit.due("of " + many, x.count(7), Math.min(many, 12));
            Kit.due("all of " + many, x.undo(Math.min(many, 12)), 0);
            Kit.due("of " + many + " are left", x.thing(0, 1), Math.max(0, many - 12));
        }
        OddTouch days = changed(0);
        days.days(9);
        days.days(9);
        Kit.due("eighteen days", days.undo(12), 0);
        Kit.due("six are left", days.count(5), 6000);
        OddTouch x = changed(12);
        x.undo(5);
        x.change(1, 7);
        Kit.due("another one behind those undone", x.count(7), 8);
        x.undo(8);
        Kit.due("back to the first", x.thing(0, 1) * 100 + x.thing(1, 1), 1);
    }

    // ---- told deeds

    private static void told(OddTouch x, String label, int at, int why, int time, int clashes) {
        Kit.due(label + ", the first that can't be", x.judge(0, 0), at);
        Kit.due(label + ", why", x.judge(0, 1), why);
        Kit.due(label + ", time", x.judge(0, 2), time);
        Kit.due(label + ", clashes", x.judge(0, 3), clashes);
    }

    private static void toldDeeds() {
        Kit.sentence("TOLD DEEDS in a TRAY: 0 and more: 10 times the THING, and the PLACE it MOVES to; 100 and 10 "
            + "times the THING, and by how much its COUNT is more (1 to 9), 200 likewise less; NONE: a DAY.");
        int[][] can = {{8, 8}, {9, 9}, {78, 1}, {79, 2}, {101, 0}, {109, 0}, {171, 0}, {179, 0}, {201, 0},
            {209, 0}, {271, 0}, {279, 0}, {-1, 1000}};
        for (int[] c : can) {
            OddTouch x = withTray(line(), c[0]);
            told(x, "told " + c[0], -1, 0, c[1], 0);
            Kit.due("made " + c[0], x.perform(0), 1);
            Kit.due("the time of " + c[0], x.count(5), c[1]);
            int t = c[0] / 10 % 10;
            int by = c[0] < 100 ? 0 : c[0] < 200 ? c[0] % 10 : -(c[0] % 10);
            Kit.due("the count by " + c[0], x.thing(t, 1), 50 + by);
            Kit.due("the place by " + c[0], x.thing(t, 0), c[0] >= 0 && c[0] < 100 ? c[0] % 10 : t);
        }
        Kit.sentence("They can't be: 1 to 4 as a MOVE (1 also for others).");
        long[] none = {80, 89, 98, 99, 100, 110, 170, 180, 181, 189, 190, 199, 200, 210, 270, 280, 281, 299,
            300, 301, 371, 1000, -2, -10, Long.MIN_VALUE, Long.MAX_VALUE, 1L << 32, (1L << 32) + 101,
            (1L << 32) - 1, Integer.MAX_VALUE, Integer.MIN_VALUE};
        for (long v : none) {
            OddTouch x = withTray(line(), v);
            told(x, "told " + v, 0, 1, 0, 0);
            Kit.refused(() -> withTray(line(), v), "made " + v, y -> y.perform(0), "0");
        }
        for (int[] w : WHY) {
            if (w[0] >= 0 && w[0] < 10 && w[1] >= 0 && w[1] < 10 && w[2] != 0) {
                Kit.asked(() -> withTray(TOWN, 10 * w[0] + w[1]), "told " + w[0] + " to " + w[1],
                    x -> x.judge(0, 1), w[2]);
            }
        }
    }

    private static long[] thirty(long last) {
        long[] row = new long[30];
        java.util.Arrays.fill(row, 101);
        row[29] = last;
        return row;
    }

    private static void judge() {
        Kit.sentence("TOLD DEEDS, judged as if made, what 0: the first place that can't be (NONE), 1: why (0), "
            + "2: TIME these take, 3: CLASHES then.");
        Kit.Maker two = () -> withTray("places 3;touch 0 1;touch 1 2;thing 0 count 1;thing 1 count 1 slow 3;",
            12, 101, -1, 1);
        long[] want = {-1, 0, 1004, 0};
        for (int i = 0; i < 4; i++) {
            int what = i;
            Kit.asked(two, "what " + what, x -> x.judge(0, what), want[what]);
        }
        told(withTray(TOWN), "an empty tray", -1, 0, 0, 1);
        told(withTray(TOWN, thirty(101)), "thirty", -1, 0, 0, 1);
        told(withTray(TOWN, thirty(100)), "the thirtieth", 29, 1, 0, 0);
        told(withTray(TOWN, thirty(5)), "no way", 29, 4, 0, 0);
        told(withTray(TOWN, 2, 100, 200), "the first of two", 1, 1, 2, 1);
        OddTouch later = withTray(TOWN, 2, -1);
        later.days(2);
        told(later, "time from now on", -1, 0, 1002, 1);
        Kit.sentence("NoSuchElementException: no such TRAY (as below); IllegalStateException: it is MISSING "
            + "(as below); IllegalArgumentException: another what.");
        for (int what : new int[] {-1, 4, Integer.MIN_VALUE, Integer.MAX_VALUE}) {
            Kit.refused(two, "what " + what, x -> x.judge(0, what), Kit.ARGUMENT);
            Kit.refused(two, "missing, what " + what, x -> x.judge(1, what), Kit.STATE);
            Kit.refused(two, "no tray, what " + what, x -> x.judge(4, what), Kit.NO_SUCH);
        }
        for (int tray : new int[] {-1, 4, Integer.MIN_VALUE, Integer.MAX_VALUE}) {
            Kit.refused(two, "tray " + tray, x -> x.judge(tray, 0), Kit.NO_SUCH);
        }
        Kit.refused(two, "the last tray is missing", x -> x.judge(3, 0), Kit.STATE);
    }

    private static void perform() {
        Kit.sentence("They are made (each a DEED), till one can't be: how many were.");
        Kit.refused(() -> withTray(TOWN), "none told", x -> x.perform(0), "0");
        Kit.refused(() -> withTray(TOWN, 100, 101), "the first can't be", x -> x.perform(0), "0");
        OddTouch all = withTray(TOWN, thirty(102));
        Kit.due("thirty", all.perform(0), 30);
        Kit.due("the count", all.thing(0, 1), 32);
        Kit.due("twelve can be undone", all.count(7), 12);
        Kit.due("one undone", all.undo(1), 11);
        Kit.due("the last one", all.thing(0, 1), 30);
        OddTouch most = withTray(TOWN, thirty(100));
        Kit.due("all but the thirtieth", most.perform(0), 29);
        Kit.due("the count", most.thing(0, 1), 30);
        OddTouch some = withTray(TOWN, 2, 101, -1, 2, 101);
        Kit.due("up to the fourth", some.perform(0), 3);
        Kit.due("deeds", some.count(7), 3);
        Kit.due("what comes behind isn't made", some.thing(0, 1), 2);
        Kit.due("time", some.count(5), 1002);
        for (int tray : new int[] {-1, 4, Integer.MIN_VALUE, Integer.MAX_VALUE}) {
            Kit.refused(BoundsDeedsTest::town, "tray " + tray, x -> x.perform(tray), Kit.NO_SUCH);
        }
        for (int i = 0; i < 4; i++) {
            int tray = i;
            Kit.refused(BoundsDeedsTest::town, "missing " + tray, x -> x.perform(tray), Kit.STATE);
        }
    }

    // ---- seasons

    private static void season() {
        Kit.sentence("A SEASON (each a DEED): how many of these could be. IllegalArgumentException: how many "
            + "times; IllegalStateException: no THINGS.");
        for (int times : new int[] {0, 31, -1, Integer.MIN_VALUE, Integer.MAX_VALUE}) {
            Kit.refused(BoundsDeedsTest::town, times + " times", x -> x.season(7, times), Kit.ARGUMENT);
            Kit.refused(OddTouch::new, "told first, " + times, x -> x.season(7, times), Kit.ARGUMENT);
        }
        for (int times : new int[] {1, 30}) {
            Kit.refused(OddTouch::new, "nobody, " + times, x -> x.season(7, times), Kit.STATE);
            Kit.refused(() -> Kit.town("places 3;touch 0 1;"), "no things, " + times,
                x -> x.season(7, times), Kit.STATE);
        }
    }

    private BigInteger seed;

    /** The draw by numbers without bounds: what goes round is told by the modulus alone. */
    private int draw(int modulo) {
        BigInteger all = BigInteger.ONE.shiftLeft(32);
        seed = seed.multiply(BigInteger.valueOf(1103515245)).add(BigInteger.valueOf(12345)).mod(all);
        return seed.shiftRight(16).intValueExact() % modulo;
    }

    /** A season made by the single calls. */
    private int byHand(OddTouch x, int begin, int times) {
        seed = BigInteger.valueOf(begin);
        int could = 0;
        for (int i = 0; i < times; i++) {
            int sort = draw(3);
            if (sort == 0) {
                x.days(1);
                could++;
            } else if (sort == 1) {
                int t = draw(x.count(2));
                x.change(t, 1 + draw(9));
                could++;
            } else {
                int t = draw(x.count(2));
                could += x.move(t, draw(x.count(1))) > 0 ? 1 : 0;
            }
        }
        return could;
    }

    private static void draws() {
        Kit.sentence("A SEASON by a SEED (x, an int; a DRAW: x becomes 1103515245 x + 12345, it is x >>> 16): so "
            + "many times (1 to 30): DRAW modulo 3: 0 a DAY; 1 the COUNT of THING DRAW modulo THINGS is 1 and DRAW "
            + "modulo 9 more; 2 THING DRAW modulo THINGS MOVES to PLACE DRAW modulo PLACES, if it can.");
        String[] towns = {"places 1;thing 0 count 0;", TOWN,
            "places 7;touch 0 1;touch 1 2;touch 2 3;touch 3 4;touch 5 4;touch 5 6;thing 0 count 0;"
            + "thing 3 count 1 slow 9;thing 6 count 7;event 3 thing 1 less 9;"};
        int[] seeds = {0, 1, 2, -1, -2, Integer.MIN_VALUE, Integer.MAX_VALUE, 12345, -1103515245, 65535, 65536,
            1 << 30, 1515870810, -2023406815};
        for (String town : towns) {
            for (int begin : seeds) {
                for (int times : new int[] {1, 2, 12, 30}) {
                    OddTouch x = Kit.town(town);
                    OddTouch y = Kit.town(town);
                    String label = "season(" + begin + ", " + times + ")";
                    Kit.due(label, x.season(begin, times), new BoundsDeedsTest().byHand(y, begin, times));
                    Kit.due(label + ", then", Kit.wholeOf(x), Kit.wholeOf(y));
                }
            }
        }
    }
}
