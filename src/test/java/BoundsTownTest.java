/** ODD and EVEN, the law, what the town is asked (promises 5 to 10): both sides of each bound. */
final class BoundsTownTest {

    private static final String TOWN = "places 4;touch 0 1;touch 1 2 wall;thing 0 count 1;"
        + "thing 1 count 3 kind 9 slow 9;thing 2 count 99 stays;";

    public static void main(String[] args) {
        thing();
        thingBits();
        place();
        steps();
        clash();
        clashes();
        firstClash();
        nought();
        law();
        keptValues();
        Kit.end("BoundsTownTest");
    }

    private static OddTouch town() {
        OddTouch x = Kit.town(TOWN);
        x.change(0, 2);
        return x;
    }

    private static OddTouch eight() {
        StringBuilder s = new StringBuilder("places 10;");
        for (int t = 0; t < 8; t++) {
            s.append(t == 0 ? "" : "touch 9 " + t + ";");
            s.append("thing " + (t == 0 ? 9 : t) + " count " + (2 * t + 1) + ";");
        }
        return Kit.town(s.toString());
    }

    private static void thing() {
        Kit.sentence("Of a THING, what 0: its PLACE, 1: COUNT, 2: KIND, 3: how SLOW, 4: 1 if it stays, else 0, "
            + "5: 1 if it is ODD, else 0, 6: 1 if it is EVEN, else 0, 7: THINGS it CLASHES with, as bits.");
        int[][] want = {{0, 3, 0, 1, 0, 1, 0, 2}, {1, 3, 9, 9, 0, 1, 0, 5}, {2, 99, 0, 1, 1, 1, 0, 2}};
        for (int t = 0; t < 3; t++) {
            for (int what = 0; what <= 7; what++) {
                int i = t;
                int k = what;
                Kit.asked(BoundsTownTest::town, "thing(" + t + ", " + what + ")", x -> x.thing(i, k),
                    want[t][what]);
            }
        }
        Kit.sentence("NoSuchElementException: no such THING (as everywhere); IllegalArgumentException: another what.");
        for (int t : new int[] {-1, 3, 8, Integer.MIN_VALUE, Integer.MAX_VALUE}) {
            Kit.refused(BoundsTownTest::town, "thing " + t, x -> x.thing(t, 0), Kit.NO_SUCH);
            Kit.refused(BoundsTownTest::town, "first of two, thing " + t, x -> x.thing(t, 8), Kit.NO_SUCH);
        }
        for (int what : new int[] {-1, 8, Integer.MIN_VALUE, Integer.MAX_VALUE}) {
            Kit.refused(BoundsTownTest::town, "what " + what, x -> x.thing(0, what), Kit.ARGUMENT);
        }
        Kit.asked(BoundsTownTest::eight, "the eighth", x -> x.thing(7, 1), 15);
        Kit.refused(BoundsTownTest::eight, "no ninth", x -> x.thing(8, 1), Kit.NO_SUCH);
        Kit.refused(OddTouch::new, "none at all", x -> x.thing(0, 1), Kit.NO_SUCH);
    }

    private static void thingBits() {
        Kit.sentence("7: THINGS it CLASHES with, as bits");
        OddTouch x = eight();
        Kit.due("all seven others", x.thing(0, 7), 254);
        for (int t = 1; t < 8; t++) {
            Kit.due("the first alone, thing " + t, x.thing(t, 7), 1);
        }
        x.change(0, 1);
        Kit.due("none", x.thing(0, 7) + x.thing(7, 7), 0);
    }

    private static void place() {
        Kit.sentence("Of a PLACE, what 0: the THING there (NONE), 1: PLACES it touches, as bits, 2: those "
            + "through a WALL, as bits.");
        int[][] want = {{0, 2, 0}, {1, 5, 4}, {2, 2, 2}, {-1, 0, 0}};
        for (int p = 0; p < 4; p++) {
            for (int what = 0; what <= 2; what++) {
                int i = p;
                int k = what;
                Kit.asked(BoundsTownTest::town, "place(" + p + ", " + what + ")", x -> x.place(i, k),
                    want[p][what]);
            }
        }
        Kit.sentence("NoSuchElementException: no such PLACE (as everywhere); IllegalArgumentException: another what.");
        for (int p : new int[] {-1, 4, 10, Integer.MIN_VALUE, Integer.MAX_VALUE}) {
            Kit.refused(BoundsTownTest::town, "place " + p, x -> x.place(p, 0), Kit.NO_SUCH);
            Kit.refused(BoundsTownTest::town, "first of two, place " + p, x -> x.place(p, 3), Kit.NO_SUCH);
        }
        for (int what : new int[] {-1, 3, Integer.MIN_VALUE, Integer.MAX_VALUE}) {
            Kit.refused(BoundsTownTest::town, "what " + what, x -> x.place(0, what), Kit.ARGUMENT);
        }
        Kit.asked(BoundsTownTest::eight, "the tenth", x -> x.place(9, 1), 254);
        Kit.refused(BoundsTownTest::eight, "no eleventh", x -> x.place(10, 1), Kit.NO_SUCH);
    }

    private static void steps() {
        Kit.sentence("STEPS between PLACES: the fewest touches on a way (walls, too).");
        OddTouch line = Kit.town("places 10;touch 0 1;touch 1 2;touch 2 3 wall;touch 3 4;touch 4 5;"
            + "touch 5 6;touch 6 7 wall;touch 7 8;touch 8 9;");
        for (int p = 0; p < 10; p++) {
            for (int q = 0; q < 10; q++) {
                Kit.due("in a line, " + p + " " + q, line.steps(p, q), Math.abs(p - q));
            }
        }
        OddTouch ring = Kit.town("places 10;touch 0 1;touch 1 2;touch 2 3 wall;touch 3 4;touch 4 5;"
            + "touch 5 6;touch 6 7 wall;touch 7 8;touch 8 9;touch 9 0;");
        for (int p = 0; p < 10; p++) {
            for (int q = 0; q < 10; q++) {
                int far = Math.abs(p - q);
                Kit.due("in a ring, " + p + " " + q, ring.steps(p, q), Math.min(far, 10 - far));
            }
        }
        Kit.sentence("STEPS; NONE: no way.");
        Kit.asked(BoundsTownTest::town, "its own", x -> x.steps(3, 3), 0);
        Kit.asked(BoundsTownTest::town, "no way", x -> x.steps(0, 3), -1);
        Kit.asked(BoundsTownTest::town, "no way back", x -> x.steps(3, 0), -1);
        Kit.asked(BoundsTownTest::town, "through those that lie there", x -> x.steps(0, 2), 2);
        for (int p : new int[] {-1, 4, Integer.MIN_VALUE, Integer.MAX_VALUE}) {
            Kit.refused(BoundsTownTest::town, "from " + p, x -> x.steps(p, 0), Kit.NO_SUCH);
            Kit.refused(BoundsTownTest::town, "to " + p, x -> x.steps(0, p), Kit.NO_SUCH);
            Kit.refused(BoundsTownTest::town, "both " + p, x -> x.steps(p, p), Kit.NO_SUCH);
        }
        Kit.refused(OddTouch::new, "none at all", x -> x.steps(0, 0), Kit.NO_SUCH);
    }

    private static void clash() {
        Kit.sentence("Whether two THINGS would CLASH side by side (wall: through a WALL). "
            + "IllegalArgumentException: both one.");
        Kit.Maker walls = () -> Kit.town(TOWN + "law a<b and wall=0;");
        Kit.asked(walls, "first and last", x -> x.clash(0, 2, false) ? 1 : 0, 0);
        Kit.asked(walls, "last and first", x -> x.clash(2, 0, false) ? 1 : 0, 0);
        Kit.asked(walls, "through a wall", x -> x.clash(0, 2, true) ? 1 : 0, 1);
        for (int t = 0; t < 3; t++) {
            int i = t;
            Kit.refused(BoundsTownTest::town, "both " + t, x -> x.clash(i, i, false) ? 1 : 0, Kit.ARGUMENT);
        }
        for (int t : new int[] {-1, 3, Integer.MIN_VALUE, Integer.MAX_VALUE}) {
            Kit.refused(BoundsTownTest::town, "first " + t, x -> x.clash(t, 0, true) ? 1 : 0, Kit.NO_SUCH);
            Kit.refused(BoundsTownTest::town, "second " + t, x -> x.clash(0, t, true) ? 1 : 0, Kit.NO_SUCH);
            Kit.refused(BoundsTownTest::town, "both " + t, x -> x.clash(t, t, true) ? 1 : 0, Kit.NO_SUCH);
        }
    }

    private static void clashes() {
        Kit.sentence("CLASHES: how many two do.");
        Kit.asked(OddTouch::new, "nobody", x -> x.clashes(), 0);
        Kit.asked(() -> Kit.town("places 2;touch 0 1;thing 0 count 1;"), "one", x -> x.clashes(), 0);
        Kit.asked(() -> Kit.town("places 2;thing 1 count 1;thing 0 count 1;"), "no touch",
            x -> x.clashes(), 0);
        Kit.asked(BoundsTownTest::eight, "seven", x -> x.clashes(), 7);
        StringBuilder all = new StringBuilder("places 8;");
        int told = 0;
        for (int p = 0; p < 8; p++) {
            all.append("thing " + p + " count 99;");
            for (int q = p + 1; q < 8 && told < 20; q++) {
                all.append("touch " + q + " " + p + (told % 2 == 0 ? ";" : " wall;"));
                told++;
            }
        }
        Kit.asked(() -> Kit.town(all.toString()), "all twenty", x -> x.clashes(), 20);
    }

    private static void firstClash() {
        Kit.sentence("The first two that CLASH, by their numbers: 10 times the lesser and the other; NONE.");
        Kit.asked(OddTouch::new, "nobody", x -> x.firstClash(), -1);
        Kit.asked(() -> Kit.town("places 2;touch 0 1;thing 0 count 2;thing 1 count 1;"), "none",
            x -> x.firstClash(), -1);
        Kit.asked(BoundsTownTest::eight, "0 and 1", x -> x.firstClash(), 1);
        OddTouch x = eight();
        for (int t = 1; t < 7; t++) {
            x.change(t, 1);
            Kit.due("0 and " + (t + 1), x.firstClash(), t + 1);
        }
        OddTouch last = Kit.town("places 8;thing 0 count 1;thing 1 count 1;thing 2 count 1;thing 3 count 1;"
            + "thing 4 count 1;thing 5 count 1;thing 6 count 1;thing 7 count 1;touch 7 6;");
        Kit.due("6 and 7", last.firstClash(), 67);
    }

    private static void nought() {
        Kit.sentence("nought counts as even (without zero), as odd, as both, as neither");
        String[] zeros = {"", "zero even;", "zero odd;", "zero both;", "zero neither;"};
        int[] odd = {0, 0, 1, 1, 0};
        int[] even = {1, 1, 0, 1, 0};
        for (int i = 0; i < zeros.length; i++) {
            OddTouch x = Kit.town("places 2;touch 0 1;thing 0 count 0;thing 1 count 1;" + zeros[i]);
            Kit.due(zeros[i] + " odd", x.thing(0, 5), odd[i]);
            Kit.due(zeros[i] + " even", x.thing(0, 6), even[i]);
            Kit.due(zeros[i] + " without a law", x.clashes(), odd[i]);
            x.change(0, 1);
            Kit.due(zeros[i] + " 1 is odd alone", 10 * x.thing(0, 5) + x.thing(0, 6), 10);
            x.change(0, 1);
            Kit.due(zeros[i] + " 2 is even alone", 10 * x.thing(0, 5) + x.thing(0, 6), 1);
            x.change(0, 97);
            Kit.due(zeros[i] + " 99 is odd alone", 10 * x.thing(0, 5) + x.thing(0, 6), 10);
            for (String law : new String[] {"law odda=1;", "law evena=1;"}) {
                OddTouch y = Kit.town("places 2;touch 0 1;thing 0 count 0;thing 1 count 1;" + zeros[i] + law);
                int holds = law.contains("odda") ? odd[i] : even[i];
                Kit.due(zeros[i] + law, y.clashes(), 1 - holds);
                OddTouch z = Kit.town("places 2;touch 0 1;thing 0 count 1;thing 1 count 0;" + zeros[i]
                    + law.replace("a=1", "b=1"));
                Kit.due(zeros[i] + law + " of the other", z.clashes(), 1 - holds);
            }
        }
    }

    private static boolean holds(String law, int a, int b) {
        OddTouch x = Kit.town("places 2;touch 0 1;thing 1 count " + a + ";thing 0 count " + b + " kind 1;"
            + "law " + law + ";");
        return x.clashes() == 0;
    }

    private static void law() {
        Kit.sentence("a, b: COUNTS of the THING with the lesser number, of the other one; odda, oddb, evena, "
            + "evenb: 1 if that is ODD, EVEN, else 0; alike: 1 if both KINDS are the same, else 0; "
            + "wall: 1 if it is through a WALL, else 0");
        Kit.due("a", holds("a=0", 0, 99), true);
        Kit.due("b", holds("b=99", 0, 99), true);
        Kit.due("odda", holds("odda=1", 99, 98) && holds("odda=0", 98, 99), true);
        Kit.due("oddb", holds("oddb=1", 98, 99) && holds("oddb=0", 99, 98), true);
        Kit.due("evena", holds("evena=1", 98, 99) && holds("evena=0", 99, 98), true);
        Kit.due("evenb", holds("evenb=1", 99, 98) && holds("evenb=0", 98, 99), true);
        Kit.due("unlike kinds", holds("alike=0", 1, 1), true);
        Kit.due("no wall", holds("wall=0", 1, 1), true);
        OddTouch x = Kit.town("places 2;touch 0 1 wall;thing 0 count 1 kind 3;thing 1 count 1 kind 3;"
            + "law alike=1 and wall=1;");
        Kit.due("like kinds through a wall", x.clashes(), 0);
        Kit.sentence("(without one: both are ODD)");
        for (int a = 1; a <= 2; a++) {
            for (int b = 1; b <= 2; b++) {
                OddTouch none = Kit.town("places 2;touch 0 1;thing 1 count " + a + ";thing 0 count " + b + ";");
                Kit.due(a + " beside " + b, none.clashes(), a + b == 2 ? 1 : 0);
            }
        }
        for (int a = 4; a <= 6; a++) {
            Kit.due(a + "=5", holds("a=b", a, 5), a == 5);
            Kit.due(a + "<5", holds("a<b", a, 5), a < 5);
            Kit.due(a + ">5", holds("a>b", a, 5), a > 5);
        }
    }

    private static void keptValues() {
        Kit.sentence("each + - * kept from -1,000,000 to 1,000,000");
        String most = "500*500*4";
        String least = "(0-500)*500*4";
        Kit.due("999,999 is less", holds(most + "-1<" + most, 0, 0), true);
        Kit.due("999,999 and 1", holds(most + "-1+1=" + most, 0, 0), true);
        Kit.due("999,999 and 2", holds(most + "-1+2=" + most, 0, 0), true);
        Kit.due("a million and 1, less 1", holds(most + "+1-1=" + most + "-1", 0, 0), true);
        Kit.due("-999,999 is more", holds(least + "+1>" + least, 0, 0), true);
        Kit.due("-999,999 less 1", holds(least + "+1-1=" + least, 0, 0), true);
        Kit.due("-999,999 less 2", holds(least + "+1-2=" + least, 0, 0), true);
        Kit.due("less a million less 1, and 1", holds(least + "-1+1=" + least + "+1", 0, 0), true);
        Kit.due("1001 times 999 is 999,999", holds("(999+2)*999=" + most + "-1", 0, 0), true);
        Kit.due("1001 times 1000 is cut", holds("(999+2)*(999+1)=" + most, 0, 0), true);
        Kit.due("-1001 times 999", holds("(0-999-2)*999=" + least + "+1", 0, 0), true);
        Kit.due("-1001 times 1000 is cut", holds("(0-999-2)*(999+1)=" + least, 0, 0), true);
        Kit.due("a million times a million", holds(most + "*(" + most + ")=" + most, 0, 0), true);
        Kit.due("less a million times a million", holds(least + "*(" + most + ")=" + least, 0, 0), true);
        Kit.due("both less", holds("(" + least + ")*(" + least + ")=" + most, 0, 0), true);
        Kit.due("a million less its less", holds(most + "-(" + least + ")=" + most, 0, 0), true);
        Kit.due("counts", holds("a*b*a*b=" + most, 99, 99), true);
        Kit.due("each working, not the whole", holds(most + "*2-" + most + "=0", 0, 0), true);
    }
}
