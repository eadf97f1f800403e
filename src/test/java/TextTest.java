/** THE TOWN, TOKENS, FAULTS and the law, by promises 3, 4, 8 and 43. */
final class TextTest {

    public static void main(String[] args) {
        goodTexts();
        tokens();
        misplaced();
        bounds();
        tooMany();
        firstFaultComes();
        laws();
        lawFaults();
        keptValues();
        Kit.end("TextTest");
    }

    private static void good(String text, int lines) {
        OddTouch x = new OddTouch();
        Kit.due("good: " + text, Kit.tell(x, text), lines);
        Kit.due("no fault: " + text, x.fault(0), 0);
        Kit.due("no place: " + text, x.fault(1), -1);
        Kit.due("lines: " + text, x.count(0), lines);
    }

    private static void bad(String text, int kind, int at) {
        OddTouch x = new OddTouch();
        Kit.due("bad: " + text, Kit.tell(x, text), -10 - kind);
        Kit.due("kind: " + text, x.fault(0), kind);
        Kit.due("place: " + text, x.fault(1), at);
        Kit.due("all stays: " + text, x.count(1), 0);
    }

    private static void goodTexts() {
        good("places 1;", 1);
        good("\n places\n10 ;\n", 1);
        good("places10;touch0 1wall;thing0count 99kind9slow9stays;", 3);
        good("places 010;thing 009 count 007;", 2);
        good("places 2;event 0 thing 0 more 1;".replace("event", "thing 0 count 0;event"), 3);
        good("places 2;thing 0 count 1 stays;thing 1 count 1 slow 1 stays;", 3);
        good("places 2;zero odd;zero both;law a=b;law 1=1;", 5);
        good("places 1;thing 0 count 1;event 999 thing 0 less 9;event 0 thing 0 more 1;", 4);
        OddTouch x = Kit.town("places 9;touch 8 7;thing 3 count 4;event 9 thing 0 more 1;"
            + "event 8 thing 0 less 1;law 1=2;");
        int[] want = {6, 9, 1, 1, 2, 0, 0, 0, 0, 1, 8};
        for (int what = 0; what <= 10; what++) {
            Kit.due("43: count(" + what + ")", x.count(what), want[what]);
        }
        Kit.due("43: others", x.count(11), -1);
        Kit.due("43: others", x.count(-1), -1);
    }

    private static void tokens() {
        bad("Places 1;", 1, 0);
        bad("places 1;\t", 1, 9);
        bad("places 1;\rzero odd;", 1, 9);
        bad("places 1;zero odd,", 1, 17);
        bad("places 1234;", 1, 7);
        bad("places 0001;", 1, 7);
        bad("places 99999999999999999999;", 1, 7);
        bad("places 1;zero \u00e4;", 1, 14);
        bad("places 1;law a/b=1;", 1, 14);
        bad("1234", 1, 0);
        bad("places 1;zero_odd;", 1, 13);
        bad("placeS 1;", 2, 0);
        bad("places 1;law a=1234;", 1, 15);
        bad("places 1;law a=1 2345;", 1, 17);
        bad("places 1;\0", 1, 9);
    }

    private static void misplaced() {
        bad("", 2, 0);
        bad("   ", 2, 3);
        bad("place 1;", 2, 0);
        bad("placesx 1;", 2, 0);
        bad("touch 0 1;", 2, 0);
        bad("places;", 2, 6);
        bad("places 1", 2, 8);
        bad("places 1 ", 2, 9);
        bad("places 1 1;", 2, 9);
        bad("places 1;;", 2, 9);
        bad("places 1;places 1;", 2, 9);
        bad("places 2;touch 0;", 2, 16);
        bad("places 2;touch 0 1 2;", 2, 19);
        bad("places 2;touch 0 1 walls;", 2, 19);
        bad("places 2;touch 0 1 wall wall;", 2, 24);
        bad("places 2;touch 0 1", 2, 18);
        bad("places 2;thing 0;", 2, 16);
        bad("places 2;thing 0 counts 1;", 2, 17);
        bad("places 2;thing 0 count;", 2, 22);
        bad("places 2;thing 0 count 1 slow 1 kind 1;", 2, 32);
        bad("places 2;thing 0 count 1 kind;", 2, 29);
        bad("places 2;thing 0 count 1 stays stays;", 2, 31);
        bad("places 1;thing 0 count 1;event 1 thing 0 more;", 2, 45);
        bad("places 1;thing 0 count 1;event 1 thing 0 odd 1;", 2, 41);
        bad("places 1;thing 0 count 1;event 1 count 0 more 1;", 2, 33);
        bad("places 1;zero;", 2, 13);
        bad("places 1;zero odd even;", 2, 18);
        bad("places 1;wall;", 2, 9);
        bad("places 1;7;", 2, 9);
        bad("places 1;law;", 2, 12);
    }

    private static void bounds() {
        bad("places 0;", 3, 7);
        bad("places 11;", 3, 7);
        bad("places 3;touch 3 0;", 3, 15);
        bad("places 3;touch 0 3;", 3, 17);
        bad("places 3;touch 1 1;", 3, 17);
        bad("places 3;touch 0 1;touch 0 1;", 3, 27);
        bad("places 3;touch 0 1;touch 1 0 wall;", 3, 27);
        bad("places 3;thing 3 count 1;", 3, 15);
        bad("places 3;thing 1 count 1;thing 1 count 1;", 3, 31);
        bad("places 3;thing 1 count 1;thing 2 count 1;thing 1 count 1;", 3, 47);
        bad("places 3;touch 0 1;touch 2 0;touch 0 1;", 3, 37);
        bad("places 3;thing 1 count 100;", 3, 23);
        bad("places 3;thing 1 count 1 kind 10;", 3, 30);
        bad("places 3;thing 1 count 1 slow 0;", 3, 30);
        bad("places 3;thing 1 count 1 slow 10;", 3, 30);
        bad("places 3;event 1 thing 0 more 1;", 3, 23);
        bad("places 3;thing 1 count 1;event 1 thing 1 more 1;", 3, 39);
        bad("places 3;thing 1 count 1;event 1 thing 0 more 0;", 3, 46);
        bad("places 3;thing 1 count 1;event 1 thing 0 less 10;", 3, 46);
        bad("places 1;touch 0 999;", 3, 17);
        bad("places 3;thing 999 count 1;", 3, 15);
    }

    private static void tooMany() {
        StringBuilder twenty = new StringBuilder("places 10;");
        for (int p = 0; p < 2; p++) {
            for (int q = p + 1; q < 10; q++) {
                twenty.append("touch " + p + " " + q + ";");
            }
        }
        twenty.append("touch 2 3;touch 2 4;touch 2 5;");
        good(twenty.toString(), 21);
        bad(twenty + "touch 9 9;", 4, twenty.length());
        bad(twenty + "touch", 4, twenty.length());
        StringBuilder eight = new StringBuilder("places 9;");
        for (int t = 0; t < 8; t++) {
            eight.append("thing " + t + " count 1;");
        }
        good(eight.toString(), 9);
        bad(eight + " thing 8 count 1;", 4, eight.length() + 1);
        StringBuilder six = new StringBuilder("places 9;thing 1 count 1;");
        for (int e = 0; e < 6; e++) {
            six.append("event " + e + " thing 0 more 1;");
        }
        good(six.toString(), 8);
        bad(six + "event", 4, six.length());
        good(six + "zero odd;law a=1;", 10);
    }

    private static void firstFaultComes() {
        bad("places 11;$", 3, 7);
        bad("places 1;zero $", 1, 14);
        bad("places 1;touch 0 0;$", 3, 17);
        bad("places 2 touch 0 9;", 2, 9);
        bad("places 2;touch 0 1;touch 0 1;touch 12345", 3, 27);
        bad("places 2;touch 2 12345;", 3, 15);
    }

    /** Of two that touch, with these counts, whether the law lets them. */
    private static void law(String law, int a, int b, boolean holds) {
        OddTouch x = Kit.town("places 2;touch 0 1;thing 1 count " + a + ";thing 0 count " + b + ";"
            + "law " + law + ";");
        Kit.due("law " + law + " " + a + " " + b, x.clashes(), holds ? 0 : 1);
        Kit.due("clash by law " + law, x.clash(0, 1, false), !holds);
        Kit.due("count(9) with " + law, x.count(9), 1);
    }

    private static void laws() {
        law("a<b", 1, 2, true);
        law("a<b", 2, 2, false);
        law("a<b", 3, 2, false);
        law("a>b", 3, 2, true);
        law("a=b", 2, 2, true);
        law("not a=b", 2, 2, false);
        law("not not a=b", 2, 2, true);
        law("1=2 and 1=2 or 1=1", 0, 0, true);
        law("1=1 or 1=2 and 1=2", 0, 0, true);
        law("[1=1 or 1=2] and 1=2", 0, 0, false);
        law("not 1=2 and 1=2", 0, 0, false);
        law("not [1=2 and 1=2]", 0, 0, true);
        law("not 1=2 or 1=1", 0, 0, true);
        law("a-b-1=4", 9, 4, true);
        law("a-(b-1)=6", 9, 4, true);
        law("2+3*4=14", 0, 0, true);
        law("(2+3)*4=20", 0, 0, true);
        law("a-b<0", 4, 9, true);
        law("odda=1 and oddb=0 and evena=0 and evenb=1", 3, 4, true);
        law("evena+evenb=2", 0, 4, true);
        law("alike=1", 3, 4, true);
        law("wall=0", 3, 4, true);
        law("999>998", 3, 4, true);
        law("007=7", 3, 4, true);
        law("[[[[[[1=1]]]]]]", 0, 0, true);
        law("((((((1))))))=1", 0, 0, true);
        law("not [not [not (1)=1]]", 0, 0, false);
        law("not[not[(1)=((1))]]and not[not[(1)=2-((1))]]", 0, 0, true);
        law("not[not[(1)=((1))]]and not[(1)=((1))]", 0, 0, false);
        OddTouch later = Kit.town("places 2;touch 0 1;thing 0 count 2;thing 1 count 2;law 1=2;law 1=1;");
        Kit.due("the later law strikes", later.clashes(), 0);
        OddTouch none = Kit.town("places 2;touch 0 1;thing 0 count 3;thing 1 count 5;");
        Kit.due("without a law two odd ones clash", none.clashes(), 1);
        Kit.due("count(9) without", none.count(9), 0);
        OddTouch walls = Kit.town("places 3;touch 0 1 wall;touch 1 2;thing 0 count 1;thing 1 count 1;"
            + "thing 2 count 1;law wall=1;");
        Kit.due("wall is 1 through a wall", walls.firstClash(), 12);
        OddTouch kinds = Kit.town("places 3;touch 0 1;touch 1 2;thing 0 count 1 kind 4;"
            + "thing 1 count 1 kind 4;thing 2 count 1;law alike=1;");
        Kit.due("alike by kinds", kinds.firstClash(), 12);
    }

    private static void lawFaults() {
        int l = "places 1;law ".length();
        bad("places 1;law 1;", 2, l + 1);
        bad("places 1;law a=;", 2, l + 2);
        bad("places 1;law =a;", 2, l);
        bad("places 1;law a=b=1;", 2, l + 3);
        bad("places 1;law a=b or;", 2, l + 6);
        bad("places 1;law a=b and or a=b;", 2, l + 8);
        bad("places 1;law [a=b;", 2, l + 4);
        bad("places 1;law [a]=b;", 2, l + 2);
        bad("places 1;law (a=b);", 2, l + 2);
        bad("places 1;law (a;", 2, l + 2);
        bad("places 1;law a=b];", 2, l + 3);
        bad("places 1;law a+=b;", 2, l + 2);
        bad("places 1;law -a=b;", 2, l);
        bad("places 1;law a=not b;", 2, l + 2);
        bad("places 1;law c=1;", 2, l);
        bad("places 1;law odd=1;", 2, l);
        bad("places 1;law (not a)=1;", 2, l + 1);
        bad("places 1;law a=1 b=1;", 2, l + 4);
        bad("places 1;law a=b", 2, l + 3);
        bad("places 1;law not not not not not not not 1=1;", 4, l + 24);
        bad("places 1;law [[[[[[[1=1]]]]]]];", 4, l + 6);
        bad("places 1;law (((((((1)))))))=1;", 4, l + 6);
        bad("places 1;law 1=(((((((1)))))));", 4, l + 8);
        bad("places 1;law not[not[not[(1)=1]]];", 4, l + 12);
        bad("places 1;law not[not[not(1)=1 and(((((1", 4, l + 22);
        bad("places 1;law [[[[[[]", 2, l + 6);
    }

    private static void keptValues() {
        String million = "500*2*500*2";
        law("999*999*999=" + million, 0, 0, true);
        law("999*999<" + million, 0, 0, true);
        law(million + "+1=" + million, 0, 0, true);
        law(million + "+1-1<" + million, 0, 0, true);
        law("0-999*999*999=0-" + million, 0, 0, true);
        law("0-" + million + "-1=0-" + million, 0, 0, true);
        law("(0-" + million + ")*(" + million + ")=0-" + million, 0, 0, true);
        law("(0-" + million + ")*(0-" + million + ")=" + million, 0, 0, true);
        law("999*999*999-999*999=999+999+1", 0, 0, true);
        law("a*a*a*b=" + million, 99, 99, true);
    }
}
