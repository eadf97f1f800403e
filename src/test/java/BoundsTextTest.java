import java.util.regex.Matcher;
import java.util.regex.Pattern;

/** The tape, THE TOWN's text and its FAULTS: each sentence with a bound, on both sides of it. */
final class BoundsTextTest {

    private static final String THING = "places 3;thing 1 count 1";

    public static void main(String[] args) {
        newObject();
        feed();
        fullTape();
        howManyBytes();
        firstBytes();
        lines();
        beginsAnew();
        allStays();
        latestFault();
        atMost900();
        kindsOfLines();
        truths();
        sums();
        places();
        touches();
        things();
        events();
        laterOnes();
        depth();
        tokens();
        eachByte();
        digits();
        theEnd();
        placesFirst();
        outOfBounds();
        tooMany();
        firstAlongTheText();
        leastKind();
        Kit.end("BoundsTextTest");
    }

    private static void good(String text, int lines) {
        OddTouch x = new OddTouch();
        Kit.due(text, Kit.tell(x, text), lines);
        Kit.due("the fault of " + text, x.fault(0), 0);
        Kit.due("no place of a fault, " + text, x.fault(1), -1);
        Kit.due("lines of " + text, x.count(0), lines);
    }

    private static OddTouch aTown() {
        OddTouch x = Kit.town("places 4;touch 0 1 wall;touch 1 2;thing 0 count 1;thing 1 count 3 slow 2;"
            + "event 5 thing 0 more 2;zero odd;law a<b;");
        x.image(1);
        x.move(1, 2);
        x.change(0, 4);
        Kit.fill(x, 2, 1, 0);
        return x;
    }

    /** A text with a fault: what it answers, and that all stays but the tape and the fault. */
    private static void bad(String text, int kind, int at) {
        OddTouch x = aTown();
        Kit.due(text, Kit.tell(x, text), -10 - kind);
        Kit.due("the fault of " + text, x.fault(0), kind);
        Kit.due("the place of it, " + text, x.fault(1), at);
        Kit.due("the tape then, " + text, x.count(8), 0);
        Kit.due("all stays, " + text, Kit.restOf(x), Kit.restOf(aTown()));
    }

    private static String filledUp(String text, int length) {
        return text + " ".repeat(length - text.length());
    }

    // ---- promises 1 to 4

    private static void newObject() {
        Kit.sentence("No PLACES, no THINGS; TRAYS are MISSING; an empty tape.");
        OddTouch x = new OddTouch();
        for (int what = 0; what <= 10; what++) {
            Kit.due("count(" + what + ")", x.count(what), 0);
        }
        for (int tray = 0; tray < 4; tray++) {
            int i = tray;
            Kit.refused(OddTouch::new, "tray " + i, y -> y.pour(i), Kit.STATE);
        }
        Kit.refused(OddTouch::new, "no place 0", y -> y.place(0, 0), Kit.NO_SUCH);
        Kit.refused(OddTouch::new, "no thing 0", y -> y.thing(0, 0), Kit.NO_SUCH);
        Kit.refused(OddTouch::new, "no byte", y -> y.town(1), Kit.ARGUMENT);
        Kit.sentence("(without one: no PLACES, no THINGS)");
        Kit.due("nor events", x.count(4), 0);
        Kit.due("nor clashes", x.clashes(), 0);
        Kit.due("nor the first one", x.firstClash(), -1);
    }

    private static void feed() {
        Kit.sentence("Twenty bytes come behind those on the tape, the highest of each int first");
        OddTouch x = new OddTouch();
        Kit.due("the first twenty", x.feed(0x706c6163, 0x65732031, 0x303b746f, 0x75636820, 0x3920383b), 20);
        Kit.due("twenty more", x.feed(0x7468696e, 0x67203720, 0x636f756e, 0x74203435, 0x3b202020), 40);
        Kit.due("as told", x.town(37), 3);
        Kit.due("places", x.count(1), 10);
        Kit.due("touch 9 8", x.place(9, 1), 1 << 8);
        Kit.due("thing 7 count 45", x.thing(0, 0) * 100 + x.thing(0, 1), 745);
        Kit.sentence("between them blanks (10, 32)");
        Kit.due("bytes from 128 on", x.feed(-1, 0x80808080, 0, 0, 0), 20);
        Kit.due("are no tokens", x.town(20), -11);
    }

    private static OddTouch fullOf(String text, int feeds) {
        OddTouch x = aTown();
        Kit.feed(x, filledUp(text, 20 * feeds));
        return x;
    }

    private static void fullTape() {
        Kit.sentence("NONE, and nothing changes, if there would be more than 900");
        OddTouch x = new OddTouch();
        for (int i = 1; i <= 45; i++) {
            Kit.due("feed " + i, x.feed(0x20202020, 0x20202020, 0x20202020, 0x20202020, 0x20202020), 20 * i);
        }
        Kit.due("feed 46", x.feed(0, 0, 0, 0, 0), -1);
        Kit.due("has 900 still", x.count(8), 900);
        Kit.due("blanks still", x.town(900), -12);
        Kit.due("up to their end", x.fault(1), 900);
        Kit.due("and then there is room", x.feed(0, 0, 0, 0, 0), 20);
        String text = "places 2;thing 1 count 7;";
        Kit.refused(() -> fullOf(text, 45), "more than 900", y -> y.feed(-1, -1, -1, -1, -1), "-1");
        Kit.due("up to 900", fullOf(text, 44).feed(-1, -1, -1, -1, -1), 900);
    }

    private static void howManyBytes() {
        Kit.sentence("IllegalArgumentException: n is below 0 or above what it has.");
        OddTouch empty = new OddTouch();
        Kit.due("0 of none", empty.town(0), -12);
        Kit.due("0 of none, its place", empty.fault(1), 0);
        String text = "places 2;zero odd;  ";
        for (int feeds : new int[] {0, 1, 2, 45}) {
            Kit.Maker maker = () -> fullOf(feeds == 0 ? "" : text, feeds);
            for (int n : new int[] {-1, Integer.MIN_VALUE, 20 * feeds + 1, 901, Integer.MAX_VALUE}) {
                Kit.refused(maker, n + " of " + 20 * feeds, x -> x.town(n), Kit.ARGUMENT);
            }
            Kit.due("0 of " + 20 * feeds, maker.make().town(0), -12);
            Kit.due("all of " + 20 * feeds, maker.make().town(20 * feeds), feeds == 0 ? -12 : 2);
        }
    }

    private static void firstBytes() {
        Kit.sentence("The first n bytes of the tape (which is empty then) are THE TOWN");
        for (int n = 0; n <= 20; n++) {
            OddTouch x = fullOf("places 2;zero odd;  ", 1);
            int want = n >= 18 ? 2 : n == 9 ? 1 : -12;
            Kit.due("the first " + n, x.town(n), want);
            Kit.due("empty then, " + n, x.count(8), 0);
            Kit.due("and begins anew, " + n, x.feed(0, 0, 0, 0, 0), 20);
        }
    }

    private static void lines() {
        Kit.sentence("how many LINES (places, too)");
        good("places 1;", 1);
        good("places 1;zero odd;", 2);
        good("places1;" + "law1=1;".repeat(127), 128);
        Kit.sentence("{ LINE ; }");
        bad("places 1;;", 2, 9);
        bad("places 1;zero odd;;", 2, 18);
        bad("places 1;zero odd zero odd;", 2, 18);
    }

    private static void beginsAnew() {
        Kit.sentence("are THE TOWN, TIME, PAIN 0, no DEEDS");
        OddTouch x = Kit.town("places 2;touch 0 1;thing 0 count 1;thing 1 count 1;"
            + "event 1 thing 0 more 1;law 1=2;zero odd;");
        x.days(2);
        x.change(0, 5);
        Kit.due("another", Kit.tell(x, "places 1;thing 0 count 0;"), 2);
        int[] want = {2, 1, 1, 0, 0, 0, 0, 0, 0, 0, 0};
        for (int what = 0; what <= 10; what++) {
            Kit.due("count(" + what + ")", x.count(what), want[what]);
        }
        Kit.due("nought is even again", x.thing(0, 6) * 10 + x.thing(0, 5), 10);
        nothingIsLeft();
        Kit.refused(() -> Kit.town("places 1;thing 0 count 0;"), "none can be undone", y -> y.undo(1),
            Kit.ARGUMENT);
    }

    /** One town behind another, with or without a fault between: as if it were the first one. */
    private static void nothingIsLeft() {
        String[] texts = {"places 1;",
            "places 5;touch 0 1 wall;touch 1 2 wall;touch 2 3;touch 3 4 wall;thing 0 count 0 kind 4 slow 7 stays;"
            + "thing 1 count 5 stays;thing 4 count 9 kind 4;event 900 thing 2 less 9;event 5 thing 1 more 3;"
            + "event 800 thing 2 more 1;zero both;law a<b or wall=1;",
            "places 6;touch 0 1;touch 1 2;touch 3 2;touch 4 3;thing 0 count 0;thing 1 count 5;thing 4 count 95;"
            + "event 7 thing 2 more 9;event 7 thing 2 less 9;event 3 thing 0 more 2;",
            "places 3;thing 2 count 0;thing 1 count 0;zero neither;",
            "places 3;touch 0 1;touch 1 2;thing 0 count 1;thing 1 count 1;thing 2 count 1;law not 1=1;",
            "places 2;touch 0 1;thing 1 count 2;thing 0 count 2;event 0 thing 0 more 1;law 1=1;",
            "places 2;touch 0 1;thing 1 count 2;event 0 thing 0 more 1;law 1=2;"};
        for (String first : texts) {
            for (String second : texts) {
                for (String between : new String[] {"", second.replace("places", "places 3;zero"), second + "!"}) {
                    OddTouch x = Kit.town(first);
                    x.days(3);
                    Kit.outcome(() -> x.mend());
                    x.goWave();
                    x.drift();
                    x.placings();
                    if (!between.isEmpty()) {
                        Kit.due(between, Kit.tell(x, between) < 0, true);
                    }
                    Kit.tell(x, second);
                    Kit.due(second + " behind " + first, Kit.restOf(x), Kit.restOf(Kit.town(second)));
                    OddTouch y = Kit.town(first);
                    Kit.tell(y, between);
                    Kit.tell(y, second);
                    OddTouch alone = Kit.town(second);
                    Kit.due("days of " + second, y.days(2), alone.days(2));
                    Kit.due("a mending of " + second, y.mending(0), alone.mending(0));
                    Kit.due("placings of " + second, y.placings(), alone.placings());
                    Kit.due("flips of " + second, y.flips(1), alone.flips(1));
                    Kit.due("calm of " + second, y.calm(0), alone.calm(0));
                    Kit.due("the odd ring of " + second, y.oddRing(1), alone.oddRing(1));
                    Kit.due("sides of " + second, y.sides(), alone.sides());
                    Kit.due("a wave of " + second, y.goWave(), alone.goWave());
                    Kit.due("a drift of " + second, y.drift(), alone.drift());
                    Kit.due("then, " + second, Kit.restOf(y), Kit.restOf(alone));
                }
            }
        }
    }

    private static void allStays() {
        Kit.sentence("-10 less the FAULT (all stays)");
        bad("places 1;!", 1, 9);
        bad("places 1", 2, 8);
        bad("places 0;", 3, 7);
        bad("places 1;law not not not not not not not 1=1;", 4, 37);
    }

    private static void latestFault() {
        Kit.sentence("Of the latest town() that threw nothing, what 0: the FAULT (0 without, and at first), "
            + "1: its place (NONE without). NONE for others.");
        OddTouch x = new OddTouch();
        Kit.due("at first", x.fault(0), 0);
        Kit.due("no place at first", x.fault(1), -1);
        for (int i = 0; i < 3; i++) {
            Kit.tell(x, "places 1;zero all;");
            Kit.due("with", x.fault(0), 2);
            Kit.due("its place", x.fault(1), 14);
            Kit.due("town throws", Kit.outcome(() -> x.town(1)), Kit.ARGUMENT);
            Kit.due("with still", x.fault(0), 2);
            Kit.due("its place still", x.fault(1), 14);
            for (int other : new int[] {-1, 2, Integer.MIN_VALUE, Integer.MAX_VALUE}) {
                Kit.due("others", x.fault(other), -1);
            }
            Kit.tell(x, "places 1;");
            Kit.due("without", x.fault(0), 0);
            Kit.due("no place without", x.fault(1), -1);
            Kit.due("others without", x.fault(2), -1);
        }
    }

    // ---- the text

    private static void atMost900() {
        Kit.sentence("a TEXT of at most 900 bytes");
        good("places 1;" + "zero odd;".repeat(99), 100);
        good(filledUp("places 1;", 891) + "zero odd;", 2);
        bad(filledUp("places 1;", 899) + "z", 2, 899);
    }

    private static void kindsOfLines() {
        Kit.sentence("LINE: touch N N [ wall ] | thing N count N [ kind N ] [ slow N ] [ stays ] | event N thing N "
            + "more N | event N thing N less N | zero even | zero odd | zero both | zero neither | law TRUTH.");
        for (int i = 0; i < 8; i++) {
            good(THING + ((i & 1) == 0 ? "" : " kind 2") + ((i & 2) == 0 ? "" : " slow 3")
                + ((i & 4) == 0 ? "" : " stays") + ";", 2);
        }
        bad(THING + " kind 2 kind 2;", 2, 32);
        bad(THING + " slow 2 slow 2;", 2, 32);
        bad(THING + " stays stays;", 2, 31);
        bad(THING + " wall;", 2, 25);
        bad("places 3;thing 1;", 2, 16);
        bad("places 3;touch 0 1 wall wall;", 2, 24);
        bad("places 3;touch 0 1 stays;", 2, 19);
        bad("places 3;touch 0;", 2, 16);
        bad(THING + ";event 5 more 1;", 2, 33);
        bad(THING + ";event 5 thing 0 1;", 2, 41);
        bad(THING + ";event 5 thing 0 more 1 less 1;", 2, 48);
        for (String word : new String[] {"even", "odd", "both", "neither"}) {
            good("places 3;zero " + word + ";", 2);
            bad("places 3;zero " + word + word + ";", 2, 14);
        }
        bad("places 3;zero 0;", 2, 14);
        bad("places 3;law;", 2, 12);
        bad("places 3;wall;", 2, 9);
    }

    /** A law that says truth of any two counts, or does not. */
    private static void says(String law, boolean truth) {
        OddTouch x = new OddTouch();
        Kit.due(law, Kit.tell(x, "places 2;touch 0 1;thing 0 count 3;thing 1 count 4;law " + law + ";"), 5);
        Kit.due("the truth of " + law, x.clashes(), truth ? 0 : 1);
    }

    private static void truths() {
        Kit.sentence("TRUTH: BOTH { or BOTH }; BOTH: UNIT { and UNIT }; UNIT: not UNIT, [ TRUTH ], or SUM, one of "
            + "= < >, SUM.");
        String[][] words = {{"0=1", "1=1"}, {"1<1", "0<1"}, {"1>1", "1>0"}};
        for (int i = 0; i < 24; i++) {
            boolean p = (i & 1) != 0;
            boolean q = (i & 2) != 0;
            boolean r = (i & 4) != 0;
            String a = words[i / 8][i & 1];
            String b = words[(i / 8 + 1) % 3][i >> 1 & 1];
            String c = words[(i / 8 + 2) % 3][i >> 2 & 1];
            says(a, p);
            says("not " + a, !p);
            says(a + " or " + b + " and " + c, p || q && r);
            says(a + " and " + b + " or " + c, p && q || r);
            says("[" + a + " or " + b + "] and " + c, (p || q) && r);
            says(a + " and [" + b + " or " + c + "]", p && (q || r));
            says("not " + a + " or " + b, !p || q);
            says("not " + a + " and " + b, !p && q);
            says("not [" + a + " and " + b + "] and " + c, !(p && q) && r);
            says("not not " + a + " and not " + b + " and " + c, p && !q && r);
        }
        bad("places 1;law 1=1 or;", 2, 19);
        bad("places 1;law or 1=1;", 2, 13);
        bad("places 1;law 1=1 1=1;", 2, 17);
        bad("places 1;law [1=1 and];", 2, 21);
        bad("places 1;law []", 2, 14);
        bad("places 1;law not;", 2, 16);
        bad("places 1;law 1<2<3;", 2, 16);
        bad("places 1;law 1=1]", 2, 16);
        bad("places 1;law [1]=1;", 2, 15);
    }

    private static void sums() {
        Kit.sentence("SUM: TERM { + TERM | - TERM }; TERM: ATOM { * ATOM }; ATOM: N, a, b, odda, oddb, evena, evenb, "
            + "alike, wall, ( SUM ).");
        says("9-3-2=4", true);
        says("9-(3-2)=8", true);
        says("2+3*4=14", true);
        says("3*4+2=14", true);
        says("2*3*4-1-1=22", true);
        says("(2+3)*(4-1)=15", true);
        says("3-4<0", true);
        says("3-4+1=0", true);
        says("a=3", true);
        says("b=4", true);
        says("odda=1 and oddb=0 and evena=0 and evenb=1 and alike=1 and wall=0", true);
        says("a*b-a=9", true);
        bad("places 1;law 1+=1;", 2, 15);
        bad("places 1;law +1=1;", 2, 13);
        bad("places 1;law -1=1;", 2, 13);
        bad("places 1;law 1*-1=1;", 2, 15);
        bad("places 1;law ()=1;", 2, 14);
        bad("places 1;law (1=1);", 2, 15);
        bad("places 1;law (1;", 2, 15);
        bad("places 1;law 1)=1;", 2, 14);
        bad("places 1;law a b=1;", 2, 15);
        bad("places 1;law c=1;", 2, 13);
        bad("places 1;law odd=1;", 2, 13);
    }

    private static void places() {
        Kit.sentence("places: 1 to 10, numbered from 0 on.");
        bad("places 0;", 3, 7);
        good("places 1;", 1);
        good("places 10;", 1);
        bad("places 11;", 3, 7);
        for (int n : new int[] {1, 10}) {
            Kit.Maker maker = () -> Kit.town("places " + n + ";");
            Kit.due("how many", maker.make().count(1), n);
            Kit.asked(maker, "the first", x -> x.place(0, 0), -1);
            Kit.asked(maker, "the last", x -> x.place(n - 1, 0), -1);
            Kit.refused(maker, "below", x -> x.place(-1, 0), Kit.NO_SUCH);
            Kit.refused(maker, "above", x -> x.place(n, 0), Kit.NO_SUCH);
        }
    }

    private static String touchesOf(int many) {
        StringBuilder s = new StringBuilder("places 10;");
        int told = 0;
        for (int p = 0; p < 10; p++) {
            for (int q = p + 1; q < 10 && told < many; q++) {
                s.append("touch " + p + " " + q + ";");
                told++;
            }
        }
        return s.toString();
    }

    private static void touches() {
        Kit.sentence("touch: two unlike PLACES, told once (either way round); 20 at most; wall: through a WALL.");
        good("places 3;touch 0 2;touch 2 1;touch 1 0;", 4);
        good("places 10;touch 9 0;touch 8 9 wall;", 3);
        bad("places 3;touch 3 0;", 3, 15);
        bad("places 3;touch 0 3;", 3, 17);
        bad("places 1;touch 0 0;", 3, 17);
        bad("places 3;touch 2 2;", 3, 17);
        bad("places 3;touch 0 1;touch 0 1;", 3, 27);
        bad("places 3;touch 0 1;touch 1 0;", 3, 27);
        bad("places 3;touch 1 0;touch 0 1 wall;", 3, 27);
        bad("places 3;touch 0 1 wall;touch 0 1;", 3, 32);
        good(touchesOf(19), 20);
        good(touchesOf(20), 21);
        Kit.due("all twenty", Kit.town(touchesOf(20)).count(3), 20);
        bad(touchesOf(21), 4, 210);
        OddTouch x = Kit.town("places 3;touch 0 1;touch 1 2 wall;");
        Kit.due("both touch", x.place(1, 1), 5);
        Kit.due("one through a wall", x.place(1, 2), 4);
        Kit.due("from there, too", x.place(2, 2), 2);
        Kit.due("the other is open", x.place(0, 2), 0);
    }

    private static String thingsOf(int many) {
        StringBuilder s = new StringBuilder("places 10;");
        for (int t = 0; t < many; t++) {
            s.append("thing " + t + " count 1;");
        }
        return s.toString();
    }

    private static void things() {
        Kit.sentence("thing: its PLACE (one at a PLACE), its COUNT 0 to 99, kind 0 to 9 (0), slow 1 to 9 (1), "
            + "stays: nobody moves it; numbered from 0 on, 8 at most.");
        good("places 3;thing 2 count 0;thing 0 count 99;", 3);
        bad("places 3;thing 3 count 1;", 3, 15);
        bad(THING + ";thing 1 count 1;", 3, 31);
        bad("places 3;thing 0 count 100;", 3, 23);
        good(THING + " kind 0;", 2);
        good(THING + " kind 9;", 2);
        bad(THING + " kind 10;", 3, 30);
        bad(THING + " slow 0;", 3, 30);
        good(THING + " slow 1;", 2);
        good(THING + " slow 9;", 2);
        bad(THING + " slow 10;", 3, 30);
        bad(THING + " slow 1 kind 1;", 2, 32);
        bad(THING + " stays kind 1;", 2, 31);
        bad(THING + " stays slow 1;", 2, 31);
        OddTouch x = Kit.town(THING + ";thing 2 count 99 kind 9 slow 9 stays;");
        int[][] want = {{1, 1, 0, 1, 0}, {2, 99, 9, 9, 1}};
        for (int t = 0; t < 2; t++) {
            for (int what = 0; what <= 4; what++) {
                Kit.due("thing " + t + ", " + what, x.thing(t, what), want[t][what]);
            }
        }
        good(thingsOf(8), 9);
        Kit.due("all eight", Kit.town(thingsOf(8)).thing(7, 0), 7);
        bad(thingsOf(9), 4, thingsOf(8).length());
    }

    private static String eventsOf(int many) {
        return THING + ";" + "event 5 thing 0 more 1;".repeat(many);
    }

    private static void events() {
        Kit.sentence("event: at a minute 0 to 999 a THING told ahead has so many more, less, 1 to 9; "
            + "numbered from 0 on, 6 at most.");
        good(THING + ";event 0 thing 0 more 1;event 999 thing 0 less 1;", 4);
        bad(THING + ";event 1000 thing 0 more 1;", 1, 31);
        bad("places 3;event 1 thing 0 more 1;" + "thing 1 count 1;", 3, 23);
        bad(THING + ";event 1 thing 1 more 1;thing 0 count 1;", 3, 39);
        good(THING + ";thing 0 count 1;event 1 thing 1 more 1;", 4);
        for (String sort : new String[] {"more", "less"}) {
            bad(THING + ";event 1 thing 0 " + sort + " 0;", 3, 46);
            good(THING + ";event 1 thing 0 " + sort + " 1;", 3);
            good(THING + ";event 1 thing 0 " + sort + " 9;", 3);
            bad(THING + ";event 1 thing 0 " + sort + " 10;", 3, 46);
        }
        good(eventsOf(6), 8);
        Kit.due("all six", Kit.town(eventsOf(6)).event(5, 0), 5);
        bad(eventsOf(7), 4, eventsOf(6).length());
    }

    private static void laterOnes() {
        Kit.sentence("Later ones of zero, law strike.");
        OddTouch x = Kit.town("places 2;touch 0 1;thing 0 count 0;thing 1 count 2;"
            + "law 1=2;zero odd;law a<b;zero neither;");
        Kit.due("zero", x.thing(0, 5) + x.thing(0, 6), 0);
        Kit.due("law", x.clashes(), 0);
        Kit.due("law the other way", x.change(0, 3) + x.clashes(), 4);
        String[] zeros = {"even", "odd", "both", "neither"};
        int[] want = {1, 10, 11, 0};
        for (String first : zeros) {
            for (int i = 0; i < 4; i++) {
                OddTouch y = Kit.town("places 1;zero " + first + ";thing 0 count 0;zero " + zeros[i] + ";");
                Kit.due(first + ", then " + zeros[i], 10 * y.thing(0, 5) + y.thing(0, 6), want[i]);
            }
        }
    }

    private static void depth() {
        Kit.sentence("At most six of not [ ( within one another.");
        String[][] nests = {{"not ", ""}, {"[", "]"}, {"not [", "]"}};
        for (String[] nest : nests) {
            int each = nest[0].length() == 5 ? 2 : 1;
            String six = nest[0].repeat(6 / each) + "1=1" + nest[1].repeat(6 / each);
            good("places 1;law " + six + ";", 2);
            good("places 1;law " + six + " and " + six + " or " + six + ";", 2);
            int at = 13 + 6 / each * nest[0].length();
            bad("places 1;law " + nest[0].repeat(7) + "1=1;", 4, at);
            for (String seventh : new String[] {"not 1=1", "[1=1]", "(1)=1"}) {
                bad("places 1;law " + nest[0].repeat(6 / each) + seventh, 4, at);
            }
            bad("places 1;law " + nest[0].repeat(6 / each) + "1=(1", 4, at + 2);
            bad("places 1;law " + nest[0].repeat(6 / each) + "1*(1", 4, at + 2);
        }
        good("places 1;law ((((((1))))))+((((((1))))))=((((((2))))));", 2);
        bad("places 1;law (((((((1)))))))=1;", 4, 19);
        bad("places 1;law 1=((((((1))))))*(((((((1", 4, 35);
        good("places 1;law not [ not [ ((1))=1 ] ];", 2);
        bad("places 1;law not [ not [ ((1))=((( 1", 4, 33);
        good("places 1;law not not not not not not 1=1 and not 1=1 or [[[[[[1=1]]]]]];", 2);
        OddTouch x = Kit.town("places 2;touch 0 1;thing 0 count 1;thing 1 count 2;"
            + "law not not not not not not a=b;");
        Kit.due("six are as none", x.clashes(), 1);
        for (int last = 1; last <= 2; last++) {
            String truth = "1+1*1=" + last;
            String sum = "1+1*1";
            for (int i = 0; i < 6; i++) {
                truth = "0=1 or 1=1 and [" + truth + "]";
                sum = "1+1*(" + sum + ")";
            }
            says(truth, last == 2);
            says("0=1 or 1=1 and " + (last + 5) + "=" + sum, false);
            says("0=1 or 1=1 and " + (last + 6) + "=" + sum, last == 2);
        }
    }

    // ---- tokens and faults

    private static void tokens() {
        Kit.sentence("TOKENS, as long as they go, between them blanks (10, 32): words (small letters), "
            + "N (1 to 3 digits), the signs ; + - * ( ) [ ] = < >.");
        good("places10;touch0 9wall;thing0count0kind0slow1stays;law[a+b-1*(a)<9];", 4);
        good("\n\n places \n 1 \n ; \n", 1);
        bad("places 1;zeroodd;", 2, 9);
        bad("places 1;lawa=1;", 2, 9);
        bad("places 1;zero oddeven;", 2, 14);
        bad("places 11 0;", 3, 7);
        bad("places 1 0;", 2, 9);
        bad("places 1;zero o dd;", 2, 14);
    }

    private static boolean isTokenSign(int b) {
        return b >= 'a' && b <= 'z' || b >= '0' && b <= '9' || b > 0 && ";+-*()[]=<>".indexOf(b) >= 0;
    }

    private static void eachByte() {
        Kit.sentence("1 no TOKEN begins so");
        for (int b = 0; b < 256; b++) {
            OddTouch x = new OddTouch();
            String text = "places 1;" + (char) b;
            int kind = b == 10 || b == 32 ? 0 : isTokenSign(b) ? 2 : 1;
            Kit.due("byte " + b, Kit.tell(x, text), kind == 0 ? 1 : -10 - kind);
            Kit.due("byte " + b + ", its place", x.fault(1), kind == 0 ? -1 : 9);
            text = "places 1;zero odd" + (char) b + ";";
            int at = b >= 'a' && b <= 'z' ? 14 : b == ';' ? 18 : 17;
            Kit.due("behind a word, byte " + b, Kit.tell(x, text), kind == 0 ? 2 : -10 - kind);
            Kit.due("behind a word, byte " + b + ", its place", x.fault(1), kind == 0 ? -1 : at);
        }
    }

    private static void digits() {
        Kit.sentence("(4 digits and more: at their first)");
        good("places 001;", 1);
        good("places 1;law 999=0;", 2);
        bad("places 0001;", 1, 7);
        bad("places 1;law 1000=0;", 1, 13);
        bad("places 1;law 999=99999;", 1, 17);
        bad("places 1;law 4294967297=1;", 1, 13);
        bad("places 99999999999999999999999999999999999999;", 1, 7);
        good("places 1;law a=1 or 100=100;", 2);
    }

    private static void theEnd() {
        Kit.sentence("2 it can't stand there (the end: the text's length;");
        String text = "places 5 ; touch 0 1 ; touch 2 1 wall ; thing 0 count 9 ; "
            + "thing 3 count 10 kind 2 slow 3 stays ; event 100 thing 1 more 2 ; event 0 thing 0 less 9 ; "
            + "zero neither ; law not [ a + 2 * ( b - 1 ) = 7 or odda < evenb and wall > 0 ] and alike = 1 ;";
        Matcher token = Pattern.compile("\\S+").matcher(text);
        int lines = 0;
        while (token.find()) {
            String begun = text.substring(0, token.end());
            if (token.group().equals(";")) {
                lines++;
                good(begun, lines);
                good(begun + "\n", lines);
            } else {
                bad(begun, 2, begun.length());
                bad(begun + " \n ", 2, begun.length() + 3);
            }
        }
        Kit.due("nine lines", lines, 9);
        bad("", 2, 0);
        bad(" ", 2, 1);
    }

    private static void placesFirst() {
        Kit.sentence("places must be told first, and once)");
        for (String line : new String[] {"touch 0 1;", "thing 0 count 1;", "event 0 thing 0 more 1;",
            "zero odd;", "law 1=1;", ";", "7"}) {
            bad(line + "places 2;", 2, 0);
            bad(" " + line, 2, 1);
        }
        good("places 2;zero odd;", 2);
        bad("places 2;places 2;", 2, 9);
        bad("places 2;zero odd;places 2;", 2, 18);
    }

    private static void outOfBounds() {
        Kit.sentence("3 N is out of its bounds (the second PLACE of touch also: the first one, one that "
            + "touches it already; a PLACE where a THING is).");
        bad("places 999;", 3, 7);
        bad("places 4;touch 1 1 wall;", 3, 17);
        bad("places 4;touch 4 4;", 3, 15);
        bad("places 4;touch 1 2;touch 1 3;touch 1 2;", 3, 37);
        bad("places 4;touch 1 2;touch 1 3;touch 3 1;", 3, 37);
        good("places 4;touch 1 2;touch 1 3;touch 3 2;", 4);
        bad("places 4;thing 3 count 1;thing 0 count 1;thing 3 count 1;", 3, 47);
        good("places 4;thing 3 count 1;thing 0 count 1;thing 1 count 1;", 4);
        bad("places 1;thing 0 count 999;", 3, 23);
    }

    private static void tooMany() {
        Kit.sentence("4 the first TOKEN of a 21st touch, a 9th thing, a 7th event; a seventh of not [ (.");
        String twenty = touchesOf(20);
        bad(twenty + " touch", 4, twenty.length() + 1);
        bad(twenty + "touch 99 99;", 4, twenty.length());
        good(twenty + "thing 0 count 0;zero odd;", 23);
        String eight = thingsOf(8);
        bad(eight + "\nthing", 4, eight.length() + 1);
        bad(eight + "thing 0 count 100;", 4, eight.length());
        good(eight + "touch 0 1;event 0 thing 7 more 1;", 11);
        String six = eventsOf(6);
        bad(six + "  event", 4, six.length() + 2);
        bad(six + "event 5000", 4, six.length());
        good(six + "thing 0 count 3;", 9);
    }

    private static void firstAlongTheText() {
        Kit.sentence("FAULTS, the first along the text");
        String[] begins = {"places 4;zero !;", "places 4;zero 9;", "places 4;touch 9 1;",
            "places 4;law not not not not not not not;"};
        int[] at = {14, 14, 15, 37};
        for (int kind = 1; kind <= 4; kind++) {
            for (String later : begins) {
                bad(begins[kind - 1] + later, kind, at[kind - 1]);
                bad(begins[kind - 1] + "!" + later, kind, at[kind - 1]);
            }
        }
        bad("places 4;touch 4 !;", 3, 15);
        bad("places 4;touch ! 4;", 1, 15);
        bad("places 4;touch 1 1 1234;", 3, 17);
    }

    private static void leastKind() {
        Kit.sentence("of one TOKEN the least kind");
        bad("places 1;zero 1234;", 1, 14);
        bad("places 1234;", 1, 7);
        bad(eventsOf(6) + "1234", 1, eventsOf(6).length());
        bad("places 1;law ((((((not 1", 2, 19);
        bad("places 1;law (((((([1", 2, 19);
        bad("places 1;law not not not not not not 1(1", 2, 38);
        bad("places 1;law not not not not not not 1[1", 2, 38);
        bad("places 1;law not not not not not not 1 not 1", 2, 39);
        bad("places 1;law not not not not not not 1+not 1", 2, 39);
        bad("places 1;law not not not not not not 1=1(1", 2, 40);
        bad("places 1 99;", 2, 9);
    }
}
