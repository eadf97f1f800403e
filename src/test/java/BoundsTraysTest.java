/** Trays, images, counts (promises 38 to 43): both sides of each bound. */
final class BoundsTraysTest {

    private static final String TOWN = "places 4;touch 0 1;touch 1 2 wall;thing 3 count 1;thing 0 count 3;"
        + "thing 2 count 2 stays;event 5 thing 0 more 1;zero both;law a<b or wall=1;";

    /** Here the seats tell a tray's numbers: nobody clashes. */
    private static final String EIGHT = "places 8;thing 7 count 1;thing 6 count 1;thing 5 count 1;"
        + "thing 4 count 1;thing 3 count 1;thing 2 count 1;thing 1 count 1;thing 0 count 1;law 1=1;";

    public static void main(String[] args) {
        missing();
        tray();
        rowsOfNoughts();
        sorts();
        write();
        pour();
        images();
        allButThose();
        restoreThrows();
        count();
        Kit.end("BoundsTraysTest");
    }

    private static OddTouch town() {
        OddTouch x = Kit.town(TOWN);
        x.change(0, 4);
        x.tray(0, 0, 0);
        x.tray(1, 1, 3);
        x.write(1, 2, 1);
        x.tray(3, 3, 30);
        x.write(3, 29, 5);
        return x;
    }

    // ---- trays

    private static void missing() {
        Kit.sentence("TRAYS 0 to 3 are MISSING at first, or rows");
        for (int i = 0; i < 4; i++) {
            int tray = i;
            Kit.Use[] uses = {x -> x.write(tray, 0, 1), x -> x.pour(tray), x -> x.judge(tray, 0),
                x -> x.perform(tray), x -> x.goats(tray, true), x -> x.seats(tray, 1, 0), x -> x.seen(tray),
                x -> x.sure(tray, 0)};
            for (Kit.Use use : uses) {
                Kit.refused(OddTouch::new, "missing " + tray, use, Kit.STATE);
                Kit.refused(() -> Kit.town(TOWN), "missing still " + tray, use, Kit.STATE);
            }
            OddTouch x = new OddTouch();
            x.tray(tray, 0, 0);
            for (int other = 0; other < 4; other++) {
                int k = other;
                Kit.due(tray + " laid, " + other, Kit.outcome(() -> x.pour(k)), k == tray ? "0" : Kit.STATE);
            }
        }
    }

    private static void tray() {
        Kit.sentence("A TRAY is a row of so many 0s. NoSuchElementException: no such TRAY; "
            + "IllegalArgumentException: no such sort, or not so many.");
        for (int tray : new int[] {-1, 4, Integer.MIN_VALUE, Integer.MAX_VALUE}) {
            Kit.refused(BoundsTraysTest::town, "tray " + tray, x -> Kit.layTray(x, tray, 0, 1), Kit.NO_SUCH);
            Kit.refused(BoundsTraysTest::town, "told first, tray " + tray, x -> Kit.layTray(x, tray, 4, 31),
                Kit.NO_SUCH);
        }
        for (int i = 0; i < 4; i++) {
            int tray = i;
            for (int bad : new int[] {-1, 4, Integer.MIN_VALUE, Integer.MAX_VALUE}) {
                Kit.refused(BoundsTraysTest::town, "sort " + bad + " of " + tray,
                    x -> Kit.layTray(x, tray, bad, 1), Kit.ARGUMENT);
            }
            for (int bad : new int[] {-1, 31, Integer.MIN_VALUE, Integer.MAX_VALUE}) {
                Kit.refused(BoundsTraysTest::town, bad + " places of " + tray,
                    x -> Kit.layTray(x, tray, 0, bad), Kit.ARGUMENT);
            }
            for (int sort = 0; sort < 4; sort++) {
                for (int many : new int[] {0, 1, 29, 30}) {
                    laid(tray, sort, many);
                }
            }
        }
    }

    private static void laid(int tray, int sort, int many) {
        String label = "tray(" + tray + ", " + sort + ", " + many + ")";
        OddTouch x = town();
        x.tray(tray, sort, many);
        Kit.due(label + " below", Kit.outcome(() -> x.write(tray, -1, 7)), Kit.INDEX);
        Kit.due(label + " above", Kit.outcome(() -> x.write(tray, many, 7)), Kit.INDEX);
        if (many > 0) {
            Kit.due(label + " first", Kit.outcome(() -> x.write(tray, 0, 7)), "7");
            Kit.due(label + " last", Kit.outcome(() -> x.write(tray, many - 1, 7)), "7");
        }
        Kit.due(label + " sort", many == 0 ? 0 : x.write(tray, 0, 1L << (8 << sort) - 1),
            many == 0 ? 0 : -(1L << (8 << sort) - 1));
    }

    private static void rowsOfNoughts() {
        Kit.sentence("rows of 0 to 30 numbers");
        // A told 0 moves thing 0 to place 0, where a second one can't; a seen 0 is no clash.
        OddTouch x = Kit.town("places 2;touch 0 1;thing 1 count 2;");
        Kit.fill(x, 2, 0, 0, 0);
        Kit.due("all three as written", x.judge(2, 0), 1);
        for (int many = 0; many <= 30; many++) {
            x.tray(0, many % 4, 30);
            for (int i = 0; i < 30; i += 7) {
                x.write(0, i, -1);
            }
            x.tray(0, (many + 1) % 4, many);
            Kit.due(many + " noughts again", x.judge(0, 2), many == 0 ? 0 : 1);
            Kit.due(many + " noughts again, the first that can't be", x.judge(0, 0), many < 2 ? -1 : 1);
            Kit.due(many + " noughts are seen", Kit.outcome(() -> x.seen(0)),
                many < 1 || many > 4 ? Kit.ARGUMENT : Integer.toString(1 << many));
        }
    }

    private static void cut(int sort, long v, long want) {
        OddTouch x = town();
        x.tray(2, sort, 2);
        Kit.due(v + " in sort " + sort, x.write(2, 1, v), want);
        Kit.due("its neighbour stays 0, a move to where another is: " + v, x.judge(2, 1), 3);
        Kit.due("at the first place: " + v, x.judge(2, 0), 0);
    }

    private static void sorts() {
        Kit.sentence("numbers of 8 bits (sort 0), 16 (1), 32 (2), 64 (3)");
        for (int sort = 0; sort < 4; sort++) {
            int bits = 8 << sort;
            long most = sort == 3 ? Long.MAX_VALUE : (1L << bits - 1) - 1;
            cut(sort, most, most);
            cut(sort, -most - 1, -most - 1);
            cut(sort, -1, -1);
            cut(sort, most + 1, -most - 1);
            cut(sort, -most - 2, most);
            if (sort < 3) {
                cut(sort, (1L << bits) - 1, -1);
                cut(sort, 1L << bits, 0);
                cut(sort, (1L << bits) + 5, 5);
                cut(sort, -(1L << bits) - 5, -5);
                cut(sort, Long.MAX_VALUE, -1);
                cut(sort, Long.MIN_VALUE, 0);
            }
        }
    }

    private static void write() {
        Kit.sentence("A number comes to a place of a TRAY, cut to its sort: as it is there. IllegalStateException: "
            + "it is MISSING; IndexOutOfBoundsException: it has no such place.");
        for (int tray : new int[] {-1, 4, Integer.MIN_VALUE, Integer.MAX_VALUE}) {
            Kit.refused(BoundsTraysTest::town, "tray " + tray, x -> x.write(tray, 0, 1), Kit.NO_SUCH);
            Kit.refused(BoundsTraysTest::town, "told first, tray " + tray, x -> x.write(tray, 99, 1), Kit.NO_SUCH);
        }
        for (int place : new int[] {-1, 0, 30, Integer.MIN_VALUE, Integer.MAX_VALUE}) {
            Kit.refused(BoundsTraysTest::town, "missing, place " + place, x -> x.write(2, place, 1), Kit.STATE);
            Kit.refused(BoundsTraysTest::town, "empty, place " + place, x -> x.write(0, place, 1), Kit.INDEX);
        }
        for (int place : new int[] {-1, 3, 29, Integer.MIN_VALUE, Integer.MAX_VALUE}) {
            Kit.refused(BoundsTraysTest::town, "of three, place " + place, x -> x.write(1, place, 1), Kit.INDEX);
        }
        for (int place : new int[] {-1, 30, Integer.MIN_VALUE, Integer.MAX_VALUE}) {
            Kit.refused(BoundsTraysTest::town, "of thirty, place " + place, x -> x.write(3, place, 1), Kit.INDEX);
        }
        OddTouch x = town();
        Kit.due("the first of three", x.write(1, 0, 70000), 4464);
        Kit.due("the last of three", x.write(1, 2, 70000), 4464);
        Kit.due("the last of thirty", x.write(3, 29, 70000), 70000);
    }

    private static void pour() {
        Kit.sentence("PLACES of THINGS come into a TRAY from its first place on, as many as it has places: how many.");
        int[] before = {0, 5, 6, 7, 4};
        int[] then = {3, 1, 2, 7, 4};
        for (int many = 0; many <= 5; many++) {
            OddTouch x = Kit.town("places 4;thing 3 count 2;thing 1 count 2;thing 2 count 2;");
            x.tray(2, 0, many);
            for (int i = 0; i < many; i++) {
                x.write(2, i, before[i]);
            }
            Kit.due("into " + many, x.pour(2), Math.min(many, 3));
            Kit.tell(x, EIGHT);
            for (int i = 0; i < many; i++) {
                Kit.due("place " + i + " of " + many, x.seats(2, 10, 10 + i), then[i]);
            }
        }
        for (int tray : new int[] {-1, 4, Integer.MIN_VALUE, Integer.MAX_VALUE}) {
            Kit.refused(BoundsTraysTest::town, "tray " + tray, x -> x.pour(tray), Kit.NO_SUCH);
        }
        Kit.refused(BoundsTraysTest::town, "missing", x -> x.pour(2), Kit.STATE);
        Kit.refused(BoundsTraysTest::town, "no places", x -> x.pour(0), "0");
        OddTouch nobody = new OddTouch();
        nobody.tray(0, 0, 30);
        Kit.due("nobody", nobody.pour(0), 0);
        OddTouch eight = Kit.town(EIGHT);
        eight.tray(0, 0, 30);
        Kit.due("eight into thirty", eight.pour(0), 8);
        eight.tray(0, 0, 8);
        Kit.due("eight into eight", eight.pour(0), 8);
        for (int k = 0; k < 8; k++) {
            Kit.due("who sits at " + k, eight.seats(0, 8, 10 + k), 7 - k);
        }
        eight.tray(0, 0, 7);
        Kit.due("eight into seven", eight.pour(0), 7);
    }

    // ---- images

    private static void images() {
        Kit.sentence("An IMAGE is made. NoSuchElementException: no such one.");
        for (int i : new int[] {-1, 3, Integer.MIN_VALUE, Integer.MAX_VALUE}) {
            Kit.refused(BoundsTraysTest::town, "image " + i, x -> Kit.imageOf(x, i), Kit.NO_SUCH);
        }
        for (int i = 0; i < 3; i++) {
            OddTouch x = town();
            x.image(i);
            String then = Kit.stateOf(x);
            x.change(1, 7);
            for (int k = 0; k < 3; k++) {
                int other = k;
                Kit.due(i + " is made, " + k, Kit.outcome(() -> Kit.restoreOf(x, other)), k == i ? "0" : Kit.STATE);
            }
            Kit.due("as in image " + i, Kit.stateOf(x), then);
            x.change(1, 9);
            x.image(i);
            String later = Kit.stateOf(x);
            x.undo(1);
            x.restore(i);
            Kit.due("made anew " + i, Kit.stateOf(x), later);
        }
    }

    private static void allButThose() {
        Kit.sentence("IMAGES 0 to 2: all but the tape, the FAULT and TRAYS, as it was (none at first).");
        OddTouch x = town();
        x.image(0);
        Kit.due("a fault", Kit.tell(x, "places 1;zero 1;"), -12);
        Kit.feed(x, "places 2;zero odd;");
        x.write(1, 2, 0);
        x.tray(0, 2, 1);
        x.days(9);
        x.days(9);
        x.restore(0);
        Kit.due("the tape stays", x.count(8), 20);
        Kit.due("the fault stays", x.fault(0), 2);
        Kit.due("its place stays", x.fault(1), 14);
        Kit.due("a tray stays", Kit.outcome(() -> x.write(0, 0, 300)), "300");
        Kit.due("and a number in it: 0 0 0 is no row", Kit.outcome(() -> x.goats(1, false)), Kit.ARGUMENT);
        Kit.due("the town, time, pain, counts as they were", Kit.sceneOf(x), Kit.sceneOf(town()));
        Kit.due("and the deeds", x.undo(1), 0);
        Kit.due("undone", x.thing(0, 1), 1);
        Kit.due("the tape as it was", x.town(18), 2);
        Kit.due("another town", x.count(2), 0);
        x.restore(0);
        Kit.due("and the image once more", Kit.sceneOf(x), Kit.sceneOf(town()));
        OddTouch nobody = new OddTouch();
        nobody.image(2);
        Kit.tell(nobody, TOWN);
        nobody.restore(2);
        for (int what = 0; what <= 10; what++) {
            Kit.due("no town, count(" + what + ")", nobody.count(what), 0);
        }
    }

    private static void restoreThrows() {
        Kit.sentence("All is as in an IMAGE. NoSuchElementException: no such one; IllegalStateException: "
            + "none was made.");
        for (int i : new int[] {-1, 3, Integer.MIN_VALUE, Integer.MAX_VALUE}) {
            Kit.refused(BoundsTraysTest::town, "image " + i, x -> Kit.restoreOf(x, i), Kit.NO_SUCH);
        }
        for (int i = 0; i < 3; i++) {
            int image = i;
            Kit.refused(BoundsTraysTest::town, "none was made " + i, x -> Kit.restoreOf(x, image), Kit.STATE);
            Kit.refused(OddTouch::new, "none at first " + i, x -> Kit.restoreOf(x, image), Kit.STATE);
        }
    }

    private static void count() {
        Kit.sentence("0 LINES, 1 PLACES, 2 THINGS, 3 touches, 4 EVENTS, 5 TIME, 6 PAIN, 7 DEEDS that can be UNDONE, "
            + "8 bytes on the tape, 9 1 with a law, else 0, 10 empty PLACES; NONE for others.");
        int[] other = {-1, 11, Integer.MIN_VALUE, Integer.MAX_VALUE};
        for (int what : other) {
            Kit.asked(BoundsTraysTest::town, "count(" + what + ")", x -> x.count(what), -1);
            Kit.asked(OddTouch::new, "nobody, count(" + what + ")", x -> x.count(what), -1);
        }
        OddTouch x = Kit.town("places 9;touch 8 7;touch 0 8 wall;thing 8 count 1;thing 7 count 3;thing 3 count 0;"
            + "event 9 thing 0 more 1;zero even;");
        x.move(2, 3);
        x.days(1);
        Kit.feed(x, TOWN);
        int[] want = {8, 9, 3, 2, 1, 1000, 9, 1, 140, 0, 6};
        Kit.due("bytes fed", (TOWN.length() + 19) / 20 * 20, 140);
        for (int what = 0; what <= 10; what++) {
            Kit.due("count(" + what + ")", x.count(what), want[what]);
        }
        OddTouch full = Kit.town("places 2;thing 0 count 0;thing 1 count 0;law 1=2;");
        Kit.due("no empty place", full.count(10), 0);
        Kit.due("a law", full.count(9), 1);
    }
}
