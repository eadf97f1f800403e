/** Waves, calm orders, events, pleasure, rests, drifts (promises 26 to 29, 33 to 35): each bound. */
final class BoundsWavesTest {

    private static final String TWO = "places 2;touch 0 1;";
    private static final String THREE = "places 3;touch 0 1;touch 1 2;thing 0 count 1;thing 1 count 1 slow 5;";

    public static void main(String[] args) {
        wave();
        whereTo();
        whoMoves();
        waveEnds();
        goWave();
        calm();
        calmOrders();
        event();
        pleasure();
        pleasureThrows();
        atRest();
        drift();
        driftsInOrder();
        twentyRounds();
        Kit.end("BoundsWavesTest");
    }

    private static void waves(String text, int moves, int minutes, int clashes) {
        int[] want = {moves, minutes, clashes};
        for (int i = 0; i < 3; i++) {
            int what = i;
            Kit.asked(() -> Kit.town(text), "what " + what + ", " + text, x -> x.wave(what), want[what]);
        }
    }

    private static void wave() {
        Kit.sentence("A WAVE, as if it went, what 0: MOVES, 1: MINUTES, 2: CLASHES then. "
            + "IllegalArgumentException: another what.");
        waves(THREE, 1, 5, 0);
        waves("places 1;", 0, 0, 0);
        OddTouch later = Kit.town(THREE);
        later.days(2);
        Kit.due("minutes from now on", later.wave(1), 5);
        for (int what : new int[] {-1, 3, Integer.MIN_VALUE, Integer.MAX_VALUE}) {
            Kit.refused(() -> Kit.town(THREE), "what " + what, x -> x.wave(what), Kit.ARGUMENT);
            Kit.refused(OddTouch::new, "nobody, what " + what, x -> x.wave(what), Kit.ARGUMENT);
        }
        for (int i = 0; i < 3; i++) {
            int what = i;
            Kit.asked(OddTouch::new, "nobody, what " + what, x -> x.wave(what), 0);
        }
    }

    private static void lies(String text, int t, int place) {
        OddTouch x = Kit.town(text);
        x.goWave();
        Kit.due("where " + t + " lies, " + text, x.thing(t, 0), place);
    }

    private static void whereTo() {
        Kit.sentence("where it can, without a CLASH there, by the fewest MINUTES (of like ones the first PLACE)");
        String far = "places 6;touch 0 1;touch 1 2;touch 2 3;touch 3 4;touch 4 5;thing 0 count 1 stays;"
            + "thing 1 count 1 slow 2;thing 3 count ";
        waves(far + "1 stays;", 1, 8, 0);
        lies(far + "1 stays;", 1, 5);
        waves(far + "2 stays;", 1, 2, 0);
        lies(far + "2 stays;", 1, 2);
        String like = "places 4;touch 0 1;touch 1 3;touch 1 2;thing 0 count 1 stays;thing 1 count 1;";
        waves(like, 1, 1, 0);
        lies(like, 1, 2);
        String near = "places 5;touch 0 1;touch 1 4;touch 4 2;touch 1 3;thing 0 count 1 stays;thing 1 count 1;";
        waves(near, 1, 1, 0);
        lies(near, 1, 3);
        lies("places 3;touch 2 1;touch 1 0;thing 2 count 1 stays;thing 1 count 1;", 1, 0);
    }

    /** Two in the middle of a line 2 0 1 3, any two clashing: who moves. */
    private static void moves(String first, String second, int who) {
        String text = "places 4;touch 2 0;touch 0 1;touch 1 3;thing 0 count " + first + ";thing 1 count "
            + second + ";law 1=2;";
        lies(text, 0, who == 0 ? 2 : 0);
        lies(text, 1, who == 1 ? 3 : 1);
    }

    private static void whoMoves() {
        Kit.sentence("that one of both whose MINUTES are fewer, of like ones the EVEN one (if just one is), else "
            + "the greater number");
        moves("1 slow 2", "2 slow 3", 0);
        moves("1 slow 3", "2 slow 3", 1);
        moves("1 slow 4", "2 slow 3", 1);
        moves("2 slow 2", "1 slow 3", 0);
        moves("2 slow 3", "1 slow 3", 0);
        moves("2 slow 4", "1 slow 3", 1);
        moves("2", "2", 1);
        moves("1", "1", 1);
        moves("0", "1", 0);
        moves("1", "0", 1);
        moves("0;zero odd", "2", 1);
        moves("0;zero odd", "1", 1);
        moves("0;zero both", "1", 0);
        moves("0;zero both", "2", 1);
        moves("0;zero neither", "1", 1);
        moves("0;zero neither", "2", 1);
        moves("2", "0;zero neither", 0);
        moves("2 stays", "1", 1);
        moves("1", "2 stays", 0);
    }

    private static void waveEnds() {
        Kit.sentence("it ends, if neither can");
        waves(TWO + "thing 0 count 1;thing 1 count 1;", 0, 0, 1);
        waves("places 3;touch 0 1;touch 1 2;thing 0 count 1 stays;thing 1 count 1 stays;", 0, 0, 1);
        waves("places 3;touch 0 1;thing 0 count 1;thing 1 count 1;", 0, 0, 1);
        String later = "touch 2 3;touch 3 4;thing 2 count 1;thing 3 count 1;";
        waves("places 5;touch 0 1;thing 0 count 1;thing 1 count 1;" + later, 0, 0, 2);
        waves("places 5;touch 0 1;" + later + "thing 0 count 1;thing 1 count 1;", 1, 1, 1);
        // A move from a clash to where there is none leaves fewer clashes: no wave reaches 50 moves.
        Kit.sentence("as long as there are CLASHES, 50 MOVES at most");
        waves(TWO + "thing 0 count 1;thing 1 count 2;", 0, 0, 0);
        StringBuilder pairs = new StringBuilder("places 10;touch 0 1;touch 2 3;touch 4 5;touch 6 7;touch 1 8;"
            + "touch 3 9;touch 5 1;touch 7 3;law alike=0;");
        for (int t = 0; t < 8; t++) {
            pairs.append("thing " + t + " count 1 kind " + t / 2 + ";");
        }
        waves(pairs.toString(), 4, 4, 0);
        lastTwo(2, 7);
        lastTwo(6, 7);
        lastTwo(0, 7);
    }

    /** Of eight only these two clash: one of them goes to place 9, where the other stays. */
    private static void lastTwo(int t, int u) {
        for (int who : new int[] {t, u}) {
            StringBuilder s = new StringBuilder("places 10;touch " + t + " " + u + ";touch " + who + " 9;");
            for (int i = 0; i < 8; i++) {
                String count = i == t || i == u ? "1" : "2";
                s.append("thing " + i + " count " + count + (i == t + u - who ? " stays;" : ";"));
            }
            waves(s.toString(), 1, 1, 0);
            lies(s.toString(), who, 9);
        }
    }

    private static void goWave() {
        Kit.sentence("It goes (a DEED, though nothing MOVES): MOVES.");
        OddTouch x = Kit.town(THREE);
        Kit.due("one move", x.goWave(), 1);
        Kit.due("its time", x.count(5), 5);
        Kit.due("its pain", x.count(6), 5);
        Kit.due("a deed", x.count(7), 1);
        Kit.due("none moves", x.goWave(), 0);
        Kit.due("a deed", x.count(7), 2);
        Kit.due("no time", x.count(5), 5);
        Kit.due("undone", x.undo(2), 0);
        Kit.due("as at first", Kit.wholeOf(x), Kit.wholeOf(Kit.town(THREE)));
        OddTouch nobody = new OddTouch();
        Kit.due("nobody", nobody.goWave(), 0);
        Kit.due("a deed", nobody.count(7), 1);
    }

    // ---- events

    private static void calmIs(String text, int clashes, int... order) {
        Kit.Maker maker = () -> text.isEmpty() ? new OddTouch() : Kit.town(text);
        Kit.asked(maker, "clashes, " + text, x -> x.calm(0), clashes);
        for (int k = 0; k < 6; k++) {
            int what = 10 + k;
            Kit.asked(maker, what + ", " + text, x -> x.calm(what), k < order.length ? order[k] : -1);
        }
    }

    private static void calm() {
        Kit.sentence("CALM, what 0: CLASHES, 10 + k: the k-th EVENT (NONE: not so many). "
            + "IllegalArgumentException: another what (10 to 15).");
        String one = TWO + "thing 0 count 1;thing 1 count 1;event 5 thing 0 more 2;";
        calmIs("", 0);
        calmIs("places 1;", 0);
        calmIs(one, 1, 0);
        calmIs(one + "event 5 thing 0 more 2;".repeat(5), 6, 0, 1, 2, 3, 4, 5);
        for (String text : new String[] {"places 1;", one, one + "event 5 thing 0 more 2;".repeat(5)}) {
            for (int what : new int[] {-1, 1, 9, 16, Integer.MIN_VALUE, Integer.MAX_VALUE}) {
                Kit.refused(() -> Kit.town(text), what + ", " + text, x -> x.calm(what), Kit.ARGUMENT);
            }
        }
    }

    private static void calmOrders() {
        Kit.sentence("CALM: of all orders of EVENTS (as if each came alone, minutes aside) that by which CLASHES "
            + "behind each of them, all together, are fewest, of like ones the first by numbers.");
        calmIs(TWO + "thing 0 count 1;thing 1 count 1;event 5 thing 0 more 2;event 5 thing 0 more 1;", 0, 1, 0);
        calmIs(TWO + "thing 0 count 1;thing 1 count 1;event 9 thing 0 more 1;event 5 thing 0 more 2;", 0, 0, 1);
        calmIs(TWO + "thing 0 count 95;thing 1 count 1;event 9 thing 0 more 9;event 5 thing 0 less 9;"
            + "law a>90;", 1, 0, 1);
        calmIs(TWO + "thing 0 count 4;thing 1 count 1;event 9 thing 0 less 9;event 5 thing 0 more 9;"
            + "law a<9;", 1, 0, 1);
        calmIs(TWO + "thing 0 count 95;thing 1 count 1;event 9 thing 0 more 9;event 5 thing 0 less 9;"
            + "law a=99 or a=95;", 1, 0, 1);
        calmIs(TWO + "thing 0 count 4;thing 1 count 1;event 9 thing 0 less 9;event 5 thing 0 more 9;"
            + "law a=0 or a=4;", 1, 0, 1);
        calmIs("places 3;touch 0 1;touch 1 2;thing 0 count 2;thing 1 count 2;thing 2 count 1;"
            + "event 0 thing 0 more 1;", 0, 0);
        StringBuilder eight = new StringBuilder("places 8;");
        for (int t = 0; t < 8; t++) {
            eight.append(t == 0 ? "" : "touch " + (t - 1) + " " + t + ";").append("thing " + t + " count 2;");
        }
        calmIs(eight + "event 0 thing 7 more 1;event 0 thing 6 more 1;event 0 thing 0 more 1;", 1, 0, 2, 1);
        calmIs("places 2;touch 0 1 wall;thing 0 count 2;thing 1 count 2;event 0 thing 0 more 1;law wall=1;", 0, 0);
        calmIs("places 2;touch 0 1 wall;thing 0 count 2;thing 1 count 2;event 0 thing 0 more 1;law wall=0;", 1, 0);
        calmIs(TWO + "thing 0 count 2 kind 1;thing 1 count 2;event 0 thing 0 more 1;law alike=0;", 0, 0);
        calmIs(TWO + "thing 0 count 2;thing 1 count 2;event 0 thing 0 more 1;law alike=0;", 1, 0);
        calmIs(TWO + "thing 0 count 0;thing 1 count 0;event 5 thing 0 more 1;event 4 thing 1 more 1;"
            + "event 3 thing 0 more 1;event 2 thing 1 more 1;event 1 thing 0 more 1;event 0 thing 0 more 1;",
            0, 0, 2, 1, 3, 4, 5);
        OddTouch x = Kit.town(TWO + "thing 0 count 2;thing 1 count 1;event 5 thing 0 more 2;event 5 thing 0 more 1;");
        Kit.due("from now on: 2", x.calm(10) * 10 + x.calm(0), 1);
        x.change(0, 1);
        Kit.due("from now on: 3", x.calm(10) * 10 + x.calm(0), 10);
    }

    private static void event() {
        Kit.sentence("Of an EVENT, what 0: its minute, 1: its THING, 2: how much more (below 0: less). "
            + "NoSuchElementException: no such EVENT; IllegalArgumentException: another what.");
        Kit.Maker six = () -> Kit.town("places 2;thing 0 count 1;thing 1 count 1;event 0 thing 0 more 1;"
            + "event 999 thing 1 less 1;event 1 thing 0 more 9;event 998 thing 1 less 9;"
            + "event 7 thing 0 more 2;event 7 thing 1 less 2;");
        int[][] want = {{0, 0, 1}, {999, 1, -1}, {1, 0, 9}, {998, 1, -9}, {7, 0, 2}, {7, 1, -2}};
        for (int e = 0; e < 6; e++) {
            for (int what = 0; what < 3; what++) {
                int i = e;
                int k = what;
                Kit.asked(six, "event(" + e + ", " + what + ")", x -> x.event(i, k), want[e][what]);
            }
        }
        for (int e : new int[] {-1, 6, Integer.MIN_VALUE, Integer.MAX_VALUE}) {
            Kit.refused(six, "event " + e, x -> x.event(e, 0), Kit.NO_SUCH);
            Kit.refused(six, "told first, event " + e, x -> x.event(e, 3), Kit.NO_SUCH);
        }
        for (int what : new int[] {-1, 3, Integer.MIN_VALUE, Integer.MAX_VALUE}) {
            Kit.refused(six, "what " + what, x -> x.event(5, what), Kit.ARGUMENT);
        }
        Kit.refused(() -> Kit.town("places 1;thing 0 count 1;"), "none", x -> x.event(0, 0), Kit.NO_SUCH);
        Kit.refused(() -> Kit.town("places 1;thing 0 count 1;event 5 thing 0 more 1;"), "one alone",
            x -> x.event(1, 0), Kit.NO_SUCH);
    }

    // ---- what each would rather

    /** Thing 0 at place 0 beside an empty place 1, round which the others stay. */
    private static String round(int... counts) {
        StringBuilder s = new StringBuilder("places 10;touch 0 1;thing 0 count 1;");
        for (int i = 0; i < counts.length; i++) {
            s.append("touch 1 " + (i + 2) + ";thing " + (i + 2) + " count " + counts[i] + " stays;");
        }
        return s.toString();
    }

    private static void pleasure() {
        Kit.sentence("PLEASURE of a THING at an empty PLACE, or its own: 2 for each it would TOUCH there, 5 less "
            + "for each it would CLASH with.");
        int[][] towns = {{}, {2}, {1}, {2, 2, 1}, {2, 2, 2, 1, 1}, {2, 2, 2, 2, 2, 2, 2}, {1, 1, 1, 1, 1, 1, 1}};
        int[] want = {0, 2, -3, 1, 0, 14, -21};
        for (int i = 0; i < towns.length; i++) {
            String text = round(towns[i]);
            Kit.asked(() -> Kit.town(text), text, x -> x.pleasure(0, 1), want[i]);
            Kit.asked(() -> Kit.town(text), "its own, " + text, x -> x.pleasure(0, 0), 0);
            Kit.asked(() -> Kit.town(text), "no way, " + text, x -> x.pleasure(0, 9), 0);
        }
        Kit.Maker wall = () -> Kit.town("places 3;touch 0 1 wall;touch 1 2;thing 0 count 1;thing 2 count 2 stays;"
            + "law wall=0;");
        Kit.asked(wall, "0 at 1", x -> x.pleasure(0, 1), 2);
        Kit.asked(wall, "1 at 1, though it stays", x -> x.pleasure(1, 1), -3);
        Kit.asked(wall, "where it was touches it no more", x -> x.pleasure(1, 2), 0);
    }

    private static void pleasureThrows() {
        Kit.sentence("PLEASURE. IllegalStateException: another THING lies there.");
        Kit.Maker maker = () -> Kit.town(round(2, 1));
        Kit.refused(maker, "0 at 2", x -> x.pleasure(0, 2), Kit.STATE);
        Kit.refused(maker, "0 at 3", x -> x.pleasure(0, 3), Kit.STATE);
        Kit.refused(maker, "2 at 0", x -> x.pleasure(2, 0), Kit.STATE);
        Kit.asked(maker, "2 at its own", x -> x.pleasure(2, 3), 0);
        for (int bad : new int[] {-1, 3, 8, Integer.MIN_VALUE, Integer.MAX_VALUE}) {
            Kit.refused(maker, "thing " + bad, x -> x.pleasure(bad, 1), Kit.NO_SUCH);
            Kit.refused(maker, "told first, thing " + bad, x -> x.pleasure(bad, 2), Kit.NO_SUCH);
        }
        for (int bad : new int[] {-1, 10, Integer.MIN_VALUE, Integer.MAX_VALUE}) {
            Kit.refused(maker, "place " + bad, x -> x.pleasure(0, bad), Kit.NO_SUCH);
        }
        Kit.asked(maker, "the last place", x -> x.pleasure(0, 9), 0);
        Kit.refused(OddTouch::new, "nobody", x -> x.pleasure(0, 0), Kit.NO_SUCH);
    }

    private static void rests(String text, boolean want) {
        Kit.asked(() -> Kit.town(text), "at rest, " + text, x -> x.atRest() ? 1 : 0, want ? 1 : 0);
        OddTouch x = Kit.town(text);
        Kit.due("a drift moves none, " + text, x.drift() == 0, want);
        Kit.due("a deed, " + text, x.count(7), 1);
    }

    private static void atRest() {
        Kit.sentence("AT REST: nobody would have more by a MOVE (that can be).");
        rests("places 1;", true);
        rests(round(), true);
        rests(round(2), false);
        rests(round(1), true);
        rests(round(2, 1), true);
        rests(round(2, 2, 1), false);
        rests(round(2, 2, 2, 1, 1), true);
        rests(round(2, 2, 2, 2, 1, 1), false);
        rests("places 3;touch 0 1;thing 0 count 2;thing 2 count 2;", true);
        rests("places 4;touch 0 1;touch 1 2;touch 2 3;thing 0 count 2 stays;thing 3 count 2 stays;", true);
        rests("places 4;touch 0 1;touch 1 2;touch 2 3;thing 0 count 2 stays;thing 3 count 2;", false);
        Kit.asked(OddTouch::new, "nobody", x -> x.atRest() ? 1 : 0, 1);
    }

    private static void drift() {
        Kit.sentence("A DRIFT (a DEED, though nothing MOVES): MOVES.");
        OddTouch x = Kit.town(round(2, 2, 1));
        Kit.due("one move", x.drift(), 1);
        Kit.due("a deed", x.count(7), 1);
        Kit.due("it lies there", x.thing(0, 0), 1);
        Kit.due("none moves", x.drift(), 0);
        Kit.due("a deed", x.count(7), 2);
        Kit.due("no time, no pain", x.count(5) + x.count(6), 0);
        Kit.due("undone", x.undo(2), 0);
        Kit.due("as at first", Kit.wholeOf(x), Kit.wholeOf(Kit.town(round(2, 2, 1))));
        Kit.sentence("each MOVES where it has most, if that is more than now, of like ones the first PLACE, taking "
            + "no TIME");
        OddTouch like = Kit.town("places 6;touch 0 3;touch 0 2;touch 0 5;touch 4 5;touch 5 1;thing 4 count 2;"
            + "thing 0 count 2 stays;");
        Kit.due("one move", like.drift(), 1);
        Kit.due("the first of like ones", like.thing(0, 0), 2);
    }

    private static void driftsInOrder() {
        Kit.sentence("A DRIFT: THING by THING, from 0 on");
        String text = "places 4;touch 0 1;touch 1 2;touch 2 3;";
        OddTouch first = Kit.town(text + "thing 0 count 2;thing 3 count 2;");
        Kit.due("the first one moves", first.drift(), 1);
        Kit.due("where", first.thing(0, 0) * 10 + first.thing(1, 0), 23);
        OddTouch last = Kit.town(text + "thing 3 count 2;thing 0 count 2;");
        Kit.due("the first one moves, the other way", last.drift(), 1);
        Kit.due("where, the other way", last.thing(0, 0) * 10 + last.thing(1, 0), 10);
        Kit.sentence("of the first two that CLASH (by their numbers) one MOVES");
        String two = "places 8;touch 0 1;touch 1 2;touch 4 5;touch 5 6;";
        OddTouch x = Kit.town(two + "thing 4 count 1;thing 0 count 1;thing 5 count 1 slow 2;thing 1 count 1 slow 3;");
        Kit.due("0 with 2, then 1 with 3", x.goWave(), 2);
        Kit.due("the pain by that order", x.count(6), 2 * 2 + 3);
        OddTouch y = Kit.town(two + "thing 4 count 1;thing 0 count 1;thing 1 count 1 slow 3;thing 5 count 1 slow 2;");
        Kit.due("0 with 3, then 1 with 2", y.goWave(), 2);
        Kit.due("the pain by that order", y.count(6), 2 * 2 + 3);
        OddTouch z = Kit.town(two + "thing 0 count 1;thing 4 count 1;thing 1 count 1 slow 3;thing 5 count 1 slow 2;");
        Kit.due("0 with 2 of the other two", z.goWave(), 2);
        Kit.due("the pain by the other order", z.count(6), 3 * 2 + 2);
    }

    /** Counts are the numbers of the things: two of them, as 10 times the lesser and the other. */
    private static String anyOf(int... pairs) {
        StringBuilder s = new StringBuilder();
        for (int pair : pairs) {
            s.append(s.length() == 0 ? "" : " or ").append("a*8+b=" + (pair / 10 * 8 + pair % 10));
        }
        return s.toString();
    }

    private static void twentyRounds() {
        Kit.sentence("again and again, till a round changes nothing, 20 rounds at most");
        // Found by a search: 22 rounds with moves 2 1 1 2 2 2 1 1 2 1 1 1 2 1 1 2 1 1 2 1 and 1 1.
        StringBuilder s = new StringBuilder("places 9;touch 0 3;touch 0 4;touch 0 5 wall;touch 0 6 wall;"
            + "touch 0 8;touch 1 2;touch 1 3;touch 1 4;touch 1 7 wall;touch 2 5 wall;touch 3 5;touch 3 6;"
            + "touch 3 7;touch 4 5;touch 5 6;touch 5 8 wall;touch 6 7 wall;");
        int[] begin = {6, 2, 3, 5, 7, 4, 1, 0};
        for (int t = 0; t < 8; t++) {
            s.append("thing " + begin[t] + " count " + t + ";");
        }
        s.append("law not [wall=0 and [" + anyOf(2, 4, 5, 12, 13, 15, 16, 17, 23, 24, 25, 26, 34, 45, 57)
            + "] or wall=1 and [" + anyOf(1, 3, 6, 7, 14, 17, 24, 25, 26, 27, 34, 35, 36, 37, 45, 46, 47, 56, 57,
            67) + "]];");
        OddTouch x = Kit.town(s.toString());
        Kit.due("moves of twenty rounds", x.drift(), 28);
        Kit.due("not at rest", x.atRest(), false);
        Kit.due("one deed", x.count(7), 1);
        Kit.due("two rounds more", x.drift(), 2);
        Kit.due("at rest", x.atRest(), true);
        int[] end = {6, 8, 7, 1, 0, 2, 4, 3};
        for (int t = 0; t < 8; t++) {
            Kit.due("where " + t + " lies", x.thing(t, 0), end[t]);
        }
        Kit.due("both undone", x.undo(2), 0);
        for (int t = 0; t < 8; t++) {
            Kit.due("where " + t + " lay", x.thing(t, 0), begin[t]);
        }
    }
}
