/** Rings, sides, placings, mendings, flips (promises 19 to 25): both sides of each bound. */
final class BoundsPlacesTest {

    private static final String PATH = "places 3;touch 0 1;touch 1 2;";
    private static final String TWO = "places 2;touch 0 1;";

    public static void main(String[] args) {
        oddRing();
        ringWhats();
        sides();
        placings();
        placing();
        mending();
        mendingWhats();
        mend();
        flips();
        flipWhats();
        Kit.end("BoundsPlacesTest");
    }

    private static String ringOf(int from, int many) {
        StringBuilder s = new StringBuilder();
        for (int i = 0; i < many; i++) {
            s.append("touch " + (from + i) + " " + (from + (i + 1) % many) + (i == 1 ? " wall;" : ";"));
        }
        return s.toString();
    }

    private static void ring(String touches, int many, int set) {
        Kit.Maker maker = () -> Kit.town("places 10;" + touches);
        Kit.asked(maker, "how many, " + touches, x -> x.oddRing(0), many);
        Kit.asked(maker, "which, " + touches, x -> x.oddRing(1), set);
        Kit.due("sides then, " + touches, maker.make().sides() == -1, many != -1);
    }

    private static void oddRing() {
        Kit.sentence("An ODD RING: PLACES that touch one behind the other round, odd many, unlike ones: the "
            + "fewest; of like ones the least set as bits.");
        ring("", -1, -1);
        ring("touch 0 1;", -1, -1);
        ring("touch 0 1;touch 1 2;", -1, -1);
        for (int many = 3; many <= 9; many++) {
            ring(ringOf(0, many), many % 2 == 0 ? -1 : many, many % 2 == 0 ? -1 : (1 << many) - 1);
        }
        ring(ringOf(0, 10), -1, -1);
        ring(ringOf(7, 3), 3, 7 << 7);
        ring(ringOf(1, 9), 9, 1022);
        ring(ringOf(0, 5) + ringOf(5, 5), 5, 31);
        ring(ringOf(5, 5) + ringOf(0, 3), 3, 7);
        ring(ringOf(0, 5) + ringOf(7, 3), 3, 896);
        ring("touch 0 9;touch 9 1;touch 1 0;touch 2 3;touch 3 4;touch 4 2;", 3, 28);
        ring("touch 0 1;touch 1 2;touch 2 0;touch 2 3;touch 3 0;", 3, 7);
        ring(ringOf(0, 6) + "touch 0 3;", -1, -1);
        ring(ringOf(0, 6) + "touch 0 2;", 3, 7);
        for (int many = 3; many <= 9; many += 2) {
            int all = many;
            Kit.asked(() -> Kit.town("places " + all + ";" + ringOf(0, all)), "all " + many, x -> x.oddRing(0), many);
        }
    }

    private static void ringWhats() {
        Kit.sentence("An ODD RING, what 0: how many PLACES, 1: these, as bits; NONE: there is none. "
            + "IllegalArgumentException: another what.");
        for (String touches : new String[] {"", ringOf(0, 3)}) {
            for (int what : new int[] {-1, 2, Integer.MIN_VALUE, Integer.MAX_VALUE}) {
                Kit.refused(() -> Kit.town("places 10;" + touches), "what " + what, x -> x.oddRing(what),
                    Kit.ARGUMENT);
            }
        }
        Kit.asked(OddTouch::new, "no places", x -> x.oddRing(0), -1);
        Kit.asked(OddTouch::new, "no places, which", x -> x.oddRing(1), -1);
        Kit.refused(OddTouch::new, "no places, another", x -> x.oddRing(2), Kit.ARGUMENT);
    }

    private static void side(String text, int set) {
        Kit.asked(() -> Kit.town(text), text, x -> x.sides(), set);
    }

    private static void sides() {
        Kit.sentence("SIDES: two sets, all touches being between them (of each part of the town that hangs "
            + "together the least PLACE is on the first side).");
        side("places 1;", 1);
        side("places 10;", 1023);
        side(TWO, 1);
        side(PATH, 5);
        side("places 3;touch 2 1;touch 0 2;", 3);
        side("places 10;touch 9 8;touch 7 6 wall;", 1023 - (1 << 9) - (1 << 7));
        side("places 10;" + ringOf(0, 10), 341);
        side("places 10;" + ringOf(1, 8), 1 | 2 | 8 | 32 | 128 | 512);
        Kit.sentence("SIDES: the first one, as bits; NONE: there are none.");
        side("places 10;" + ringOf(0, 9), -1);
        side("places 10;touch 0 1;" + ringOf(7, 3), -1);
        Kit.asked(OddTouch::new, "no places", x -> x.sides(), 0);
    }

    private static String eight(String more, String each) {
        StringBuilder s = new StringBuilder("places 10;" + more);
        for (int t = 0; t < 8; t++) {
            s.append("thing " + t + " count 1" + each + ";");
        }
        return s.toString();
    }

    private static void placings() {
        Kit.sentence("PLACINGS: THINGS at unlike PLACES, those that stay where they are, no CLASHES: all");
        Kit.asked(OddTouch::new, "nobody, nowhere", x -> x.placings(), 1);
        String[] texts = {"places 10;", "places 1;thing 0 count 1;", "places 10;thing 4 count 1;",
            "places 10;thing 4 count 1 stays;", PATH + "thing 0 count 1;thing 2 count 1;",
            PATH + "thing 0 count 1;thing 2 count 1;thing 1 count 1;",
            PATH + "thing 0 count 1;thing 2 count 1;thing 1 count 2;",
            PATH + "thing 0 count 1 stays;thing 1 count 1 stays;",
            PATH + "thing 0 count 1 stays;thing 2 count 1 stays;",
            PATH + "thing 0 count 1 stays;thing 1 count 1;", TWO + "thing 0 count 1;thing 1 count 1;",
            eight("", ""), eight("", " stays"), eight("touch 0 1;", " stays"), eight("touch 8 9;", "")};
        int[] want = {1, 1, 10, 1, 2, 0, 2, 0, 1, 1, 0, 1814400, 1, 0, 1814400 - 56 * 20160};
        for (int i = 0; i < texts.length; i++) {
            String text = texts[i];
            Kit.asked(() -> Kit.town(text), text, x -> x.placings(), want[i]);
        }
        String walls = "places 3;touch 0 1 wall;touch 1 2;thing 0 count 1;thing 1 count 1;";
        Kit.asked(() -> Kit.town(walls + "law wall=0;"), "not through a wall", x -> x.placings(), 4);
        Kit.asked(() -> Kit.town(walls + "law wall=1;"), "through a wall alone", x -> x.placings(), 4);
        Kit.asked(() -> Kit.town("places 2;touch 0 1 wall;thing 0 count 1;thing 1 count 1;law wall=0;"),
            "nothing but a wall", x -> x.placings(), 0);
        Kit.asked(() -> Kit.town("places 2;touch 0 1 wall;thing 0 count 1;thing 1 count 1;law wall=1;"),
            "nothing but a wall that helps", x -> x.placings(), 2);
        Kit.asked(() -> Kit.town(walls + "law wall=0;"), "the first", x -> x.placing(0, 1), 2);
        Kit.asked(() -> Kit.town(walls + "law wall=1;"), "the first, walled", x -> x.placing(0, 1), 1);
        Kit.Maker mixed = () -> Kit.town("places 4;touch 0 1;touch 1 2;thing 0 count 2;thing 1 count 1;thing 2 count 1;");
        Kit.asked(mixed, "an even one ahead of two odd ones", x -> x.placings(), 16);
        int[] first = {0, 1, 3};
        int[] last = {3, 2, 0};
        for (int t = 0; t < 3; t++) {
            int u = t;
            Kit.asked(mixed, "the first, " + t, x -> x.placing(0, u), first[t]);
            Kit.asked(mixed, "the last, " + t, x -> x.placing(15, u), last[t]);
            Kit.asked(mixed, "behind the last, " + t, x -> x.placing(16, u), -1);
        }
        Kit.asked(() -> Kit.town("places 4;touch 0 1;thing 0 count 1 stays;thing 1 count 1;thing 2 count 1;"
            + "thing 3 count 2;"), "two odd ones at two places", x -> x.placings(), 2);
        OddTouch x = Kit.town(PATH + "thing 0 count 2;thing 1 count 2;");
        int[] counts = {6, 6, 2, 6, 6, 2};
        for (int i = 0; i < counts.length; i++) {
            Kit.due("as the counts are, " + i, x.placings(), counts[i]);
            x.change(i % 2, 1);
            x.change(1, i % 3 == 2 ? 1 : 0);
        }
    }

    private static void placing() {
        Kit.sentence("The PLACE of a THING in the k-th of them; NONE: not so many. "
            + "IllegalArgumentException: k is below 0.");
        Kit.Maker path = () -> Kit.town(PATH + "thing 0 count 1;thing 1 count 2;");
        int[][] want = {{0, 1}, {0, 2}, {1, 0}, {1, 2}, {2, 0}, {2, 1}, {-1, -1}, {-1, -1}};
        for (int k = 0; k < want.length; k++) {
            for (int t = 0; t < 2; t++) {
                int i = k;
                int u = t;
                Kit.asked(path, "placing(" + k + ", " + t + ")", x -> x.placing(i, u), want[k][t]);
            }
        }
        Kit.asked(path, "far too many", x -> x.placing(Integer.MAX_VALUE, 1), -1);
        for (int k : new int[] {-1, Integer.MIN_VALUE}) {
            Kit.refused(path, "k " + k, x -> x.placing(k, 0), Kit.ARGUMENT);
            Kit.refused(path, "no thing, k " + k, x -> x.placing(k, 2), Kit.NO_SUCH);
        }
        for (int t : new int[] {-1, 2, 8, Integer.MIN_VALUE, Integer.MAX_VALUE}) {
            Kit.refused(path, "thing " + t, x -> x.placing(0, t), Kit.NO_SUCH);
            Kit.refused(path, "thing " + t + ", not so many", x -> x.placing(6, t), Kit.NO_SUCH);
        }
        Kit.Maker all = () -> Kit.town(eight("", ""));
        for (int t = 0; t < 8; t++) {
            int u = t;
            Kit.asked(all, "the first, " + t, x -> x.placing(0, u), t);
            Kit.asked(all, "the last, " + t, x -> x.placing(1814399, u), 9 - t);
            Kit.asked(all, "behind the last, " + t, x -> x.placing(1814400, u), -1);
        }
        Kit.Maker none = () -> Kit.town(TWO + "thing 0 count 1;thing 1 count 1;");
        Kit.asked(none, "not even one", x -> x.placing(0, 0), -1);
        Kit.refused(OddTouch::new, "nobody", x -> x.placing(0, 0), Kit.NO_SUCH);
    }

    private static void mends(String text, int moved, int minutes, int... places) {
        Kit.Maker maker = () -> Kit.town(text);
        Kit.asked(maker, "how many, " + text, x -> x.mending(0), moved);
        Kit.asked(maker, "minutes, " + text, x -> x.mending(1), minutes);
        for (int t = 0; t < places.length; t++) {
            int what = 10 + t;
            Kit.asked(maker, "place of " + t + ", " + text, x -> x.mending(what), places[t]);
        }
    }

    private static void mending() {
        Kit.sentence("MENDING: the PLACING with the fewest THINGS elsewhere than now, of like ones the fewest "
            + "MINUTES (as MOVES from now, each by itself; who has no way can't), of like ones the first; it takes "
            + "no TIME.");
        mends(PATH + "thing 0 count 1;thing 1 count 2;", 0, 0, 0, 1);
        mends("places 5;touch 0 1;touch 1 2;touch 3 0;thing 0 count 1;thing 1 count 1;", 1, 1, 0, 2);
        mends("places 5;touch 0 1;touch 1 2;touch 3 0;thing 0 count 1;thing 1 count 1 slow 2;", 1, 1, 3, 1);
        mends("places 6;touch 0 1;touch 1 4;touch 4 5;touch 0 2;touch 2 3;thing 0 count 1 slow 9;"
            + "thing 1 count 1 slow 9;thing 4 count 2 stays;", 1, 9, 2, 1, 4);
        mends(PATH + "thing 0 count 1;thing 1 count 1;thing 2 count 2;", 2, 2, 0, 2, 1);
        mends("places 3;touch 0 1;thing 0 count 1;thing 1 count 1;", -1, -1, -1, -1);
        Kit.due("a placing that nobody has a way to",
            Kit.town("places 3;touch 0 1;thing 0 count 1;thing 1 count 1;").placings(), 4);
        mends("places 4;touch 0 1;touch 2 3;thing 0 count 1;thing 1 count 1;thing 2 count 2;", -1, -1, -1, -1, -1);
        mends(TWO + "thing 0 count 1;thing 1 count 1;", -1, -1, -1, -1);
        mends(PATH + "thing 0 count 1 stays;thing 1 count 1 stays;", -1, -1, -1, -1);
    }

    private static void mendingWhats() {
        Kit.sentence("MENDING, what 0: how many THINGS, 1: MINUTES, 10 + t: the PLACE of THING t; NONE: no PLACING. "
            + "IllegalArgumentException: another what (10 and more: THINGS).");
        String[] texts = {"", "places 1;", PATH + "thing 0 count 1;thing 1 count 1;",
            TWO + "thing 0 count 1;thing 1 count 1;", eight("", "")};
        int[] things = {0, 0, 2, 2, 8};
        for (int i = 0; i < texts.length; i++) {
            String text = texts[i];
            Kit.Maker maker = () -> text.isEmpty() ? new OddTouch() : Kit.town(text);
            int[] others = {-1, 2, 3, 9, 10 + things[i], 18, Integer.MIN_VALUE, Integer.MAX_VALUE};
            for (int what : others) {
                Kit.refused(maker, what + " of " + text, x -> x.mending(what), Kit.ARGUMENT);
            }
            boolean none = text.startsWith(TWO);
            Kit.asked(maker, "how many of " + text, x -> x.mending(0), none ? -1 : i == 2 ? 1 : 0);
            Kit.asked(maker, "minutes of " + text, x -> x.mending(1), none ? -1 : i == 2 ? 1 : 0);
            for (int t = 0; t < things[i]; t++) {
                int what = 10 + t;
                int want = none ? -1 : i == 2 ? 2 * t : t;
                Kit.asked(maker, "place of " + t + ", " + text, x -> x.mending(what), want);
            }
        }
    }

    private static void mend() {
        Kit.sentence("THINGS lie as MENDING tells (a DEED): how many lie elsewhere. "
            + "IllegalStateException: no PLACING.");
        String[] none = {TWO + "thing 0 count 1;thing 1 count 1;",
            "places 3;touch 0 1;thing 0 count 1;thing 1 count 1;",
            PATH + "thing 0 count 1 stays;thing 1 count 1 stays;"};
        for (String text : none) {
            Kit.refused(() -> Kit.town(text), text, x -> x.mend(), Kit.STATE);
        }
        OddTouch x = Kit.town(PATH + "thing 0 count 1;thing 1 count 1;thing 2 count 2;");
        Kit.due("two lie elsewhere", x.mend(), 2);
        Kit.due("as it told", x.thing(0, 0) * 100 + x.thing(1, 0) * 10 + x.thing(2, 0), 21);
        Kit.due("no time", x.count(5), 0);
        Kit.due("no pain", x.count(6), 0);
        Kit.due("a deed", x.count(7), 1);
        Kit.due("nobody lies elsewhere", x.mend(), 0);
        Kit.due("a deed", x.count(7), 2);
        OddTouch nobody = new OddTouch();
        Kit.due("nobody", nobody.mend(), 0);
        Kit.due("a deed", nobody.count(7), 1);
    }

    private static void flip(String text, int many, int set) {
        Kit.asked(() -> Kit.town(text), "how many, " + text, x -> x.flips(0), many);
        Kit.asked(() -> Kit.town(text), "which, " + text, x -> x.flips(1), set);
    }

    private static void flips() {
        Kit.sentence("FLIPS: the fewest THINGS whose COUNT is 1 more (99: 1 less) so that there are no CLASHES as "
            + "they lie, of like ones the least set as bits.");
        flip("places 1;", 0, 0);
        flip(TWO + "thing 0 count 2;thing 1 count 1;", 0, 0);
        flip(TWO + "thing 0 count 1;thing 1 count 1;", 1, 1);
        flip(PATH + "thing 0 count 1;thing 2 count 1;thing 1 count 1;", 1, 4);
        flip(TWO + "thing 0 count 97;thing 1 count 0;law a=98;", 1, 1);
        flip(TWO + "thing 0 count 98;thing 1 count 0;law a=99;", 1, 1);
        flip(TWO + "thing 0 count 99;thing 1 count 0;law a=98;", 1, 1);
        flip(TWO + "thing 0 count 99;thing 1 count 0;law a<98;", -1, -1);
        flip(TWO + "thing 0 count 99;thing 1 count 0;law b=1;", 1, 2);
        flip(TWO + "thing 0 count 99;thing 1 count 99;law a+b=98*2;", 2, 3);
        flip(TWO + "thing 0 count 0;thing 1 count 0;zero odd;", -1, -1);
        flip(TWO + "thing 0 count 0;thing 1 count 0;zero both;law odda+evena+oddb+evenb<3;", 2, 3);
        flip(TWO + "thing 0 count 1 kind 1;thing 1 count 1 kind 1;law alike=0;", -1, -1);
        flip(TWO + "thing 0 count 1 kind 1;thing 1 count 1 kind 2;law alike=0;", 0, 0);
        flip("places 2;touch 0 1 wall;thing 0 count 1;thing 1 count 1;law wall=1;", 0, 0);
        flip("places 2;touch 0 1 wall;thing 0 count 1;thing 1 count 1;law wall=0;", -1, -1);
        StringBuilder all = new StringBuilder("places 8;law a>1 and b>1;");
        for (int t = 0; t < 8; t++) {
            all.append(t == 0 ? "" : "touch 0 " + t + ";").append("thing " + t + " count 1 stays;");
        }
        flip(all.toString(), 8, 255);
    }

    private static void flipWhats() {
        Kit.sentence("FLIPS, what 0: how many, 1: which, as bits; NONE: none do. "
            + "IllegalArgumentException: another what.");
        String[] texts = {"places 1;", TWO + "thing 0 count 1;thing 1 count 1;",
            TWO + "thing 0 count 1;thing 1 count 1;law 1=2;"};
        int[] want = {0, 1, -1};
        for (int i = 0; i < texts.length; i++) {
            String text = texts[i];
            flip(text, want[i], want[i]);
            for (int what : new int[] {-1, 2, Integer.MIN_VALUE, Integer.MAX_VALUE}) {
                Kit.refused(() -> Kit.town(text), what + " of " + text, x -> x.flips(what), Kit.ARGUMENT);
            }
        }
        Kit.asked(OddTouch::new, "nobody", x -> x.flips(0), 0);
        Kit.asked(OddTouch::new, "nobody, which", x -> x.flips(1), 0);
    }
}
