import java.util.LinkedHashMap;
import java.util.Map;

/**
 * Calls that throw, calls that are refused and calls that only ask, on an object that has a bit of
 * everything and on one without a text: what they answer, and that nothing changes by them.
 */
final class RefusalTest {

    public static void main(String[] args) {
        everyThrow();
        firstOfSeveral();
        refusedWithoutThrow();
        asking();
        withoutText();
        Kit.end("RefusalTest");
    }

    /** A town, deeds, two images, three trays, a fault, a tape: all of it can be told from a twin. */
    private static OddTouch rich() {
        OddTouch x = Kit.town("places 6;touch 0 1;touch 1 2 wall;touch 2 3;touch 3 4;thing 0 count 1;"
            + "thing 1 count 3 kind 2 slow 2;thing 3 count 98 stays;event 400 thing 0 more 1;"
            + "event 20 thing 1 less 2;zero both;law odda+oddb<2 or wall=1;");
        x.image(0);
        x.change(0, 2);
        x.move(1, 2);
        x.image(2);
        x.days(1);
        x.change(2, 1);
        x.tray(0, 1, 3);
        x.write(0, 0, 4);
        x.write(0, 1, 103);
        x.write(0, 2, -1);
        x.tray(1, 0, 2);
        x.write(1, 0, 2);
        x.tray(2, 3, 4);
        x.write(2, 1, -1);
        Kit.tell(x, "places 1;zero;");
        Kit.feed(x, "places 2;thing 1 count 4;");
        return x;
    }

    /** Lists calls by what they answer or throw. */
    private static final class Calls {
        private final Map<String, Kit.Use> all = new LinkedHashMap<>();

        void add(String label, Kit.Use use) {
            all.put(label, use);
        }

        void due(Kit.Maker maker, String want) {
            all.forEach((label, use) -> Kit.refused(maker, label, use, want));
        }
    }

    private static long is(boolean b) {
        return b ? 1 : 0;
    }

    private static void everyThrow() {
        Kit.sentence("A call that throws changes nothing.");
        noSuch().due(RefusalTest::rich, Kit.NO_SUCH);
        arguments().due(RefusalTest::rich, Kit.ARGUMENT);
        states().due(RefusalTest::rich, Kit.STATE);
        Calls index = new Calls();
        index.add("write(0, 3)", x -> x.write(0, 3, 1));
        index.add("write(0, -1)", x -> x.write(0, -1, 1));
        index.due(RefusalTest::rich, Kit.INDEX);
    }

    private static Calls noSuch() {
        Calls c = new Calls();
        for (int t : new int[] {-1, 3}) {
            c.add("thing " + t, x -> x.thing(t, 0));
            c.add("clash " + t, x -> is(x.clash(t, 0, true)));
            c.add("clash 0 " + t, x -> is(x.clash(0, t, true)));
            c.add("change " + t, x -> x.change(t, 1));
            c.add("placing " + t, x -> x.placing(0, t));
            c.add("pleasure " + t, x -> x.pleasure(t, 5));
        }
        for (int p : new int[] {-1, 6}) {
            c.add("place " + p, x -> x.place(p, 0));
            c.add("steps " + p, x -> x.steps(p, 0));
            c.add("steps 0 " + p, x -> x.steps(0, p));
            c.add("pleasure 0 " + p, x -> x.pleasure(0, p));
        }
        for (int tray : new int[] {-1, 4}) {
            c.add("judge " + tray, x -> x.judge(tray, 0));
            c.add("perform " + tray, x -> x.perform(tray));
            c.add("goats " + tray, x -> x.goats(tray, false));
            c.add("seats " + tray, x -> x.seats(tray, 3, 0));
            c.add("seen " + tray, x -> x.seen(tray));
            c.add("sure " + tray, x -> x.sure(tray, 0));
            c.add("tray " + tray, x -> Kit.layTray(x, tray, 0, 1));
            c.add("write " + tray, x -> x.write(tray, 0, 1));
            c.add("pour " + tray, x -> x.pour(tray));
        }
        for (int i : new int[] {-1, 3}) {
            c.add("image " + i, x -> Kit.imageOf(x, i));
            c.add("restore " + i, x -> Kit.restoreOf(x, i));
        }
        c.add("event -1", x -> x.event(-1, 0));
        c.add("event 2", x -> x.event(2, 0));
        return c;
    }

    private static Calls arguments() {
        Calls c = new Calls();
        c.add("town -1", x -> x.town(-1));
        c.add("town 41", x -> x.town(41));
        c.add("clash both one", x -> is(x.clash(1, 1, false)));
        c.add("thing what 8", x -> x.thing(0, 8));
        c.add("place what 3", x -> x.place(0, 3));
        c.add("change by 100", x -> x.change(0, 100));
        c.add("change by -100", x -> x.change(0, -100));
        c.add("days 0", x -> x.days(0));
        c.add("days 10", x -> x.days(10));
        c.add("undo 0", x -> x.undo(0));
        c.add("undo 5", x -> x.undo(5));
        c.add("undo 13", x -> x.undo(13));
        c.add("judge what 4", x -> x.judge(0, 4));
        c.add("season of 0", x -> x.season(1, 0));
        c.add("season of 31", x -> x.season(1, 31));
        c.add("oddRing what 2", x -> x.oddRing(2));
        c.add("placing -1", x -> x.placing(-1, 0));
        c.add("mending 2", x -> x.mending(2));
        c.add("mending 13", x -> x.mending(13));
        c.add("flips what 2", x -> x.flips(2));
        c.add("wave what 3", x -> x.wave(3));
        c.add("calm 9", x -> x.calm(9));
        c.add("calm 16", x -> x.calm(16));
        c.add("event what 3", x -> x.event(0, 3));
        c.add("goats of 4 103 -1", x -> x.goats(0, true));
        c.add("bestRow of 8", x -> x.bestRow(8, true, 0));
        c.add("bestRow what 18", x -> x.bestRow(7, true, 18));
        c.add("seats of 4 103 -1", x -> x.seats(0, 3, 0));
        c.add("seats 0", x -> x.seats(1, 0, 0));
        c.add("seats 11", x -> x.seats(1, 11, 0));
        c.add("seats what 20", x -> x.seats(1, 3, 20));
        c.add("sure of step 4", x -> x.sure(2, 4));
        c.add("tray of sort 4", x -> Kit.layTray(x, 0, 4, 1));
        c.add("tray of 31", x -> Kit.layTray(x, 0, 0, 31));
        c.add("a missing tray of 31", x -> Kit.layTray(x, 3, 0, 31));
        return c;
    }

    private static Calls states() {
        Calls c = new Calls();
        c.add("judge", x -> x.judge(3, 0));
        c.add("perform", x -> x.perform(3));
        c.add("goats", x -> x.goats(3, false));
        c.add("seats", x -> x.seats(3, 3, 0));
        c.add("seen", x -> x.seen(3));
        c.add("sure", x -> x.sure(3, 0));
        c.add("write", x -> x.write(3, 0, 1));
        c.add("pour", x -> x.pour(3));
        c.add("pleasure", x -> x.pleasure(0, 2));
        c.add("restore", x -> Kit.restoreOf(x, 1));
        return c;
    }

    private static void firstOfSeveral() {
        Kit.sentence("Of several throws of a call that one comes that is told first.");
        Calls noSuch = new Calls();
        noSuch.add("thing, what", x -> x.thing(3, 8));
        noSuch.add("place, what", x -> x.place(6, 3));
        noSuch.add("clash, both one", x -> is(x.clash(3, 3, true)));
        noSuch.add("change, by", x -> x.change(3, 100));
        noSuch.add("judge, what", x -> x.judge(4, 4));
        noSuch.add("placing, k", x -> x.placing(-1, 3));
        noSuch.add("event, what", x -> x.event(2, 3));
        noSuch.add("seats, n, what", x -> x.seats(4, 11, 20));
        noSuch.add("pleasure of none where another lies", x -> x.pleasure(3, 2));
        noSuch.add("sure, k", x -> x.sure(4, 9));
        noSuch.add("tray, sort, many", x -> Kit.layTray(x, 4, 4, 31));
        noSuch.add("write, place", x -> x.write(4, 99, 1));
        noSuch.due(RefusalTest::rich, Kit.NO_SUCH);
        Calls state = new Calls();
        state.add("judge, what", x -> x.judge(3, 4));
        state.add("seats, n, what", x -> x.seats(3, 11, 20));
        state.add("sure, k", x -> x.sure(3, 9));
        state.add("write, place", x -> x.write(3, 99, 1));
        state.due(RefusalTest::rich, Kit.STATE);
        Calls argument = new Calls();
        argument.add("season, no things", x -> x.season(1, 0));
        argument.due(OddTouch::new, Kit.ARGUMENT);
        argument.due(() -> Kit.town("places 3;"), Kit.ARGUMENT);
    }

    private static void refusedWithoutThrow() {
        Kit.sentence("below 0: less why it can't be (nothing happens)");
        Kit.refused(RefusalTest::rich, "no thing", x -> x.move(3, 0), "-1");
        Kit.refused(RefusalTest::rich, "no place", x -> x.move(0, 6), "-1");
        Kit.refused(RefusalTest::rich, "stays", x -> x.move(2, 4), "-2");
        Kit.refused(RefusalTest::rich, "not empty", x -> x.move(0, 2), "-3");
        Kit.refused(RefusalTest::rich, "its own", x -> x.move(0, 0), "-3");
        Kit.refused(RefusalTest::rich, "no way", x -> x.move(0, 5), "-4");
        Kit.sentence("NONE, and nothing changes, if there would be more than 900");
        Kit.refused(() -> {
            OddTouch x = rich();
            for (int i = 0; i < 43; i++) {
                x.feed(0x20202020, 0x20202020, 0x20202020, 0x20202020, 0x20202020);
            }
            return x;
        }, "feed", x -> x.feed(0, 0, 0, 0, 0), "-1");
        Kit.sentence("-10 less the FAULT (all stays)");
        for (int n : new int[] {0, 8, 24}) {
            OddTouch x = rich();
            Kit.due("town " + n, x.town(n), -12);
            Kit.due("its place " + n, x.fault(1), n);
            Kit.due("the tape is empty " + n, x.count(8), 0);
            Kit.due("all stays " + n, Kit.restOf(x), Kit.restOf(rich()));
        }
    }

    /** What only asks, whatever the answer. */
    private static void asking() {
        Kit.sentence("judged as if made");
        harmless("judge", 4, (x, i) -> x.judge(0, i));
        Kit.sentence("A WAVE, as if it went");
        harmless("wave", 3, (x, i) -> x.wave(i));
        Kit.sentence("CALM, what 0: CLASHES");
        harmless("calm", 6, (x, i) -> x.calm(10 + i));
        Kit.sentence("MENDING, what 0: how many THINGS");
        harmless("mending", 2, (x, i) -> x.mending(i));
        harmless("mending 10", 3, (x, i) -> x.mending(10 + i));
        Kit.sentence("The PLACE of a THING in the k-th of them");
        harmless("placing", 9, (x, i) -> x.placing(i, i % 3));
        harmless("placings", 1, (x, i) -> x.placings());
        Kit.sentence("FLIPS, what 0: how many");
        harmless("flips", 2, (x, i) -> x.flips(i));
        Kit.sentence("An ODD RING, what 0: how many PLACES");
        harmless("oddRing", 2, (x, i) -> x.oddRing(i));
        harmless("sides", 1, (x, i) -> x.sides());
        Kit.sentence("BEST ROW of a set, what 0: GOATS");
        harmless("bestRow", 8, (x, i) -> x.bestRow(i, i % 2 == 0, 10));
        Kit.sentence("SEATS, what 0: how many sit");
        harmless("seats", 10, (x, i) -> x.seats(1, i + 1, 10));
        harmless("goats", 2, (x, i) -> x.goats(1, i == 0));
        Kit.sentence("SEEN: how many rows.");
        harmless("seen", 3, (x, i) -> i == 0 ? 0 : x.seen(i));
        harmless("sure", 4, (x, i) -> x.sure(2, i));
        Kit.sentence("Whether all is AT REST.");
        harmless("atRest", 1, (x, i) -> is(x.atRest()));
        harmless("pleasure", 6, (x, i) -> i == 2 || i == 3 ? 0 : x.pleasure(0, i));
        Kit.sentence("Why a THING can't MOVE to a PLACE; 0.");
        harmless("why", 7, (x, i) -> x.why(0, i));
    }

    private interface Ask {
        long of(OddTouch x, int i);
    }

    private static void harmless(String label, int many, Ask ask) {
        for (int k = 0; k < many; k++) {
            int i = k;
            OddTouch x = rich();
            long once = ask.of(x, i);
            Kit.due(label + " " + i + " again", ask.of(x, i), once);
            Kit.asked(RefusalTest::rich, label + " " + i, y -> ask.of(y, i), once);
        }
    }

    private static void withoutText() {
        Kit.sentence("(without one: no PLACES, no THINGS)");
        Kit.Maker none = OddTouch::new;
        Calls noSuch = new Calls();
        noSuch.add("thing", x -> x.thing(0, 0));
        noSuch.add("place", x -> x.place(0, 0));
        noSuch.add("steps", x -> x.steps(0, 0));
        noSuch.add("clash", x -> is(x.clash(0, 0, true)));
        noSuch.add("change", x -> x.change(0, 1));
        noSuch.add("placing", x -> x.placing(0, 0));
        noSuch.add("event", x -> x.event(0, 0));
        noSuch.add("pleasure", x -> x.pleasure(0, 0));
        noSuch.due(none, Kit.NO_SUCH);
        Calls argument = new Calls();
        argument.add("undo", x -> x.undo(1));
        argument.add("mending 10", x -> x.mending(10));
        argument.add("bestRow of 1", x -> x.bestRow(1, false, 0));
        argument.due(none, Kit.ARGUMENT);
        Kit.refused(none, "season", x -> x.season(1, 1), Kit.STATE);
        Calls none0 = new Calls();
        none0.add("clashes", x -> x.clashes());
        none0.add("sides", x -> x.sides());
        none0.add("mending 0", x -> x.mending(0));
        none0.add("mending 1", x -> x.mending(1));
        none0.add("flips 0", x -> x.flips(0));
        none0.add("flips 1", x -> x.flips(1));
        none0.add("wave 0", x -> x.wave(0));
        none0.add("wave 2", x -> x.wave(2));
        none0.add("calm 0", x -> x.calm(0));
        none0.add("bestRow of none", x -> x.bestRow(0, true, 0));
        none0.due(none, "0");
        Calls minus = new Calls();
        minus.add("firstClash", x -> x.firstClash());
        minus.add("oddRing 0", x -> x.oddRing(0));
        minus.add("oddRing 1", x -> x.oddRing(1));
        minus.add("calm 10", x -> x.calm(10));
        minus.add("bestRow of none, 10", x -> x.bestRow(0, false, 10));
        minus.add("move", x -> x.move(0, 0));
        minus.due(none, "-1");
        Kit.asked(none, "placings", x -> x.placings(), 1);
        Kit.asked(none, "at rest", x -> is(x.atRest()), 1);
        Kit.asked(none, "why", x -> x.why(0, 0), 1);
        told();
        deeds();
    }

    private static void told() {
        OddTouch x = new OddTouch();
        Kit.fill(x, 0, -1, -1);
        Kit.due("days are judged", x.judge(0, 2), 2000);
        Kit.due("and made", x.perform(0), 2);
        Kit.fill(x, 0, 0);
        Kit.due("moves can't be", x.judge(0, 1), 1);
        Kit.fill(x, 0, 101);
        Kit.due("counts can't be", x.judge(0, 1), 1);
        Kit.fill(x, 0, 0, -1);
        Kit.due("seen", x.seen(0), 1);
        Kit.due("sure", x.sure(0, 1), -1);
        Kit.due("no row", Kit.outcome(() -> x.goats(0, false)), Kit.ARGUMENT);
        Kit.due("none come", Kit.outcome(() -> x.seats(0, 1, 0)), Kit.ARGUMENT);
        Kit.due("none are poured", x.pour(0), 0);
    }

    private static void deeds() {
        OddTouch x = new OddTouch();
        Kit.due("mend", x.mend(), 0);
        Kit.due("wave", x.goWave(), 0);
        Kit.due("drift", x.drift(), 0);
        Kit.due("days", x.days(9), 0);
        Kit.due("twelve deeds", x.count(7), 12);
        Kit.due("time", x.count(5), 9000);
        Kit.due("undone", x.undo(12), 0);
        Kit.due("as new", Kit.wholeOf(x), Kit.wholeOf(new OddTouch()));
    }
}
