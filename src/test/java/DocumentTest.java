import java.io.IOException;
import java.nio.file.DirectoryStream;
import java.nio.file.Files;
import java.nio.file.Path;
import java.util.ArrayList;
import java.util.List;
import java.util.regex.Matcher;
import java.util.regex.Pattern;

/** Sentences that have no bound in them, and that each sentence of the document is named by a test. */
final class DocumentTest {

    /** Ten places in a row, the way from 4 to 5 through a wall. */
    private static final String ROAD = "places 10;touch 0 1;touch 1 2;touch 2 3;touch 3 4;touch 4 5 wall;"
        + "touch 5 6;touch 6 7;touch 7 8;touch 8 9;";

    public static void main(String[] args) throws IOException {
        constant();
        calls512();
        firstLine();
        tape();
        oddAndEven();
        touchAndClash();
        clashesAnswered();
        minutesOfMoves();
        orderOfPlacings();
        placingsAnswered();
        waveEnds();
        whoGoesAway();
        everySentenceIsNamed();
        Kit.end("DocumentTest");
    }

    private static void constant() {
        Kit.sentence("The constants: `NONE = -1`: There is none.");
        Kit.due("NONE", OddTouch.NONE, -1);
    }

    /** Twenty clashes all the time, and as many days as 512 calls can have: no number runs over. */
    private static void calls512() {
        Kit.sentence("An object is used for at most 512 calls after it has been made; what later calls answer is "
            + "free.");
        StringBuilder text = new StringBuilder("places 8;");
        int touches = 0;
        for (int p = 0; p < 8; p++) {
            text.append("thing " + p + " count 1;");
            for (int q = p + 1; q < 8 && touches < 20; q++) {
                text.append("touch " + p + " " + q + ";");
                touches++;
            }
        }
        OddTouch x = Kit.town(text.append("law 0=1;").toString());
        int calls = (text.length() + 19) / 20 + 1;
        x.tray(0, 0, 30);
        for (int i = 0; i < 30; i++) {
            x.write(0, i, -1);
        }
        calls += 31;
        int days = 0;
        for (; calls < 512 - 5; calls++) {
            Kit.due("days of call " + calls, x.perform(0), 30);
            days += 30;
        }
        Kit.due("CLASHES", x.clashes(), 20);
        Kit.due("TIME", x.count(5), 1000 * days);
        Kit.due("PAIN", x.count(6), 20000 * days);
        Kit.due("PAIN of nine more", x.days(9), 180000);
        Kit.due("the 512th", x.undo(12), 0);
    }

    private static void firstLine() {
        Kit.sentence("THE TOWN is a TEXT of at most 900 bytes (without one: no PLACES, no THINGS): places N ; "
            + "{ LINE ; }");
        Kit.due("no LINE but places", Kit.tell(new OddTouch(), "places 1;"), 1);
        Kit.due("a LINE", Kit.tell(new OddTouch(), "places 1;zero odd;"), 2);
        Kit.due("LINES", Kit.tell(new OddTouch(), "places 2 ;\ntouch 1 0 ;\nthing 0 count 0 ;\n"), 3);
        Kit.due("no sign behind places", Kit.tell(new OddTouch(), "places 1"), -12);
        Kit.due("no sign behind a LINE", Kit.tell(new OddTouch(), "places 1;zero odd"), -12);
        Kit.due("two signs", Kit.tell(new OddTouch(), "places 1;;"), -12);
        Kit.due("a LINE ahead", Kit.tell(new OddTouch(), "zero odd;places 1;"), -12);
        OddTouch x = new OddTouch();
        Kit.due("PLACES without a text", x.count(1), 0);
        Kit.due("THINGS without a text", x.count(2), 0);
    }

    private static void tape() {
        Kit.sentence("Twenty bytes come behind those on the tape, the highest of each int first: how many it has; "
            + "NONE, and nothing changes, if there would be more than 900.");
        OddTouch x = new OddTouch();
        // "plac" "es 3" ";tou" "ch 0" " 2  ", then ";   " and blanks.
        Kit.due("the first", x.feed(0x706c6163, 0x65732033, 0x3b746f75, 0x63682030, 0x20322020), 20);
        Kit.due("the second", x.feed(0x3b202020, 0x20202020, 0x20202020, 0x20202020, 0x20202020), 40);
        Kit.due("in this order", x.town(21), 2);
        Kit.due("what touches", x.place(0, 1), 4);
        for (int i = 1; i <= 45; i++) {
            Kit.due("feed " + i, x.feed(i, i, i, i, i), 20 * i);
        }
        Kit.due("one more", x.feed(0, 0, 0, 0, 0), -1);
        Kit.due("the tape", x.count(8), 900);
    }

    private static void oddAndEven() {
        Kit.sentence("ODD, EVEN is a COUNT as numbers are; nought counts as even (without zero), as odd, as both, as "
            + "neither.");
        OddTouch x = Kit.town("places 1;thing 0 count 0;");
        Kit.due("nought is not ODD", x.thing(0, 5), 0);
        Kit.due("nought is EVEN", x.thing(0, 6), 1);
        for (int n = 1; n <= 99; n++) {
            x.change(0, 1);
            Kit.due(n + " ODD", x.thing(0, 5), n % 2);
            Kit.due(n + " EVEN", x.thing(0, 6), 1 - n % 2);
        }
        String[] words = {"even", "odd", "both", "neither"};
        for (int i = 0; i < 4; i++) {
            x = Kit.town("places 1;thing 0 count 0;zero " + words[i] + ";");
            Kit.due("zero " + words[i] + " ODD", x.thing(0, 5), i == 1 || i == 2 ? 1 : 0);
            Kit.due("zero " + words[i] + " EVEN", x.thing(0, 6), i == 0 || i == 2 ? 1 : 0);
            x.change(0, 1);
            Kit.due("zero " + words[i] + ", one", 10 * x.thing(0, 5) + x.thing(0, 6), 10);
            x.change(0, 1);
            Kit.due("zero " + words[i] + ", two", 10 * x.thing(0, 5) + x.thing(0, 6), 1);
        }
    }

    private static void touchAndClash() {
        Kit.sentence("Two THINGS TOUCH, if their PLACES do. They CLASH, if they TOUCH and the law does not hold "
            + "(without one: both are ODD)");
        for (int a = 0; a <= 3; a++) {
            for (int b = 0; b <= 3; b++) {
                boolean bothOdd = a % 2 == 1 && b % 2 == 1;
                pair("", "touch 0 1;", a, b, bothOdd);
                pair("", "touch 1 0 wall;", a, b, bothOdd);
                pair("", "touch 0 2;touch 1 2;", a, b, false);
                pair("law a < b;", "touch 1 0;", a, b, a >= b);
                pair("law a < b;", "touch 0 2;", a, b, false);
                pair("law wall = 1;", "touch 0 1 wall;", a, b, false);
                pair("law wall = 1;", "touch 0 1;", a, b, true);
                pair("law 0 = 0;", "touch 0 1;", a, b, false);
                pair("law 0 = 1;", "touch 1 2;", a, b, false);
            }
        }
    }

    private static void pair(String law, String touches, int a, int b, boolean clash) {
        String text = "places 3;" + touches + "thing 0 count " + a + ";thing 1 count " + b + ";" + law;
        OddTouch x = Kit.town(text);
        Kit.due(text, x.clashes(), clash ? 1 : 0);
        Kit.due(text + " of one", x.thing(0, 7), clash ? 2 : 0);
        Kit.due(text + " of the other", x.thing(1, 7), clash ? 1 : 0);
    }

    private static void clashesAnswered() {
        Kit.sentence("`int clashes()`: CLASHES.");
        StringBuilder text = new StringBuilder(ROAD);
        for (int t = 0; t < 8; t++) {
            text.append("thing " + t + " count 1;");
            Kit.asked(() -> Kit.town(text.toString()), "things up to " + t, x -> x.clashes(), t);
        }
    }

    private static void minutesOfMoves() {
        Kit.sentence("To MOVE a THING to an empty PLACE takes MINUTES: STEPS times how SLOW it is");
        for (int slow = 1; slow <= 9; slow++) {
            for (int p = 1; p < 10; p++) {
                OddTouch x = Kit.town(ROAD + "thing 0 count 1 slow " + slow + ";");
                Kit.due("slow " + slow + " to " + p, x.move(0, p), p * slow);
                Kit.due("it lies there", x.thing(0, 0), p);
                Kit.due("TIME", x.count(5), p * slow);
                Kit.due("and back", x.move(0, 0), p * slow);
                Kit.due("TIME then", x.count(5), 2 * p * slow);
            }
        }
        OddTouch x = Kit.town(ROAD + "thing 0 count 1;thing 1 count 1;");
        Kit.due("past another one", x.move(0, 9), 9);
        Kit.due("to where somebody lies", x.move(0, 1), -3);
    }

    private static void orderOfPlacings() {
        Kit.sentence("all; in order by PLACES of THINGS from 0 on.");
        String text = "places 5;touch 0 1;touch 1 2;touch 2 3;touch 3 4;thing 4 count 1;thing 0 count 2;"
            + "thing 2 count 3;thing 3 count 6 stays;";
        OddTouch x = Kit.town(text);
        int k = 0;
        for (int a = 0; a < 5; a++) {
            for (int b = 0; b < 5; b++) {
                for (int c = 0; c < 5; c++) {
                    boolean unlike = a != b && b != c && a != c && a != 3 && b != 3 && c != 3;
                    if (unlike && Math.abs(a - c) != 1) {
                        String want = a + " " + b + " " + c + " 3";
                        Kit.due("placing " + k, x.placing(k, 0) + " " + x.placing(k, 1) + " " + x.placing(k, 2)
                            + " " + x.placing(k, 3), want);
                        k++;
                    }
                }
            }
        }
        Kit.due("no more", x.placing(k, 0), -1);
        Kit.due("how many", x.placings(), k);
    }

    private static void placingsAnswered() {
        Kit.sentence("`int placings()`: How many PLACINGS there are.");
        int orders = 1;
        StringBuilder text = new StringBuilder("places 10;");
        for (int t = 0; t < 8; t++) {
            text.append("thing " + t + " count 1;");
            orders *= 10 - t;
            Kit.asked(() -> Kit.town(text.toString()), "things up to " + t, x -> x.placings(), orders);
        }
        Kit.asked(() -> Kit.town("places 2;touch 0 1;thing 0 count 1;thing 1 count 1;"), "none", x -> x.placings(), 0);
    }

    private static void waveEnds() {
        Kit.sentence("A WAVE: as long as there are CLASHES");
        Kit.Maker calm = () -> Kit.town(ROAD + "thing 0 count 1;thing 1 count 2;");
        Kit.asked(calm, "none ahead", x -> x.wave(0), 0);
        Kit.asked(calm, "no MINUTES", x -> x.wave(1), 0);
        // Two pairs, a MOVE each; behind the second one there are none.
        Kit.Maker pairs = () -> Kit.town(ROAD + "thing 0 count 1;thing 1 count 1;thing 6 count 1;thing 7 count 1;");
        Kit.asked(pairs, "two pairs", x -> x.wave(0), 2);
        Kit.asked(pairs, "CLASHES then", x -> x.wave(2), 0);
        Kit.Maker pair = () -> Kit.town(ROAD + "thing 0 count 1;thing 1 count 1;thing 6 count 1;thing 7 count 2;");
        Kit.asked(pair, "one pair", x -> x.wave(0), 1);
        Kit.Maker caught = () -> Kit.town("places 2;touch 0 1;thing 0 count 1;thing 1 count 1;");
        Kit.asked(caught, "neither can", x -> x.wave(0), 0);
        Kit.asked(caught, "it goes on", x -> x.wave(2), 1);
    }

    private static void whoGoesAway() {
        Kit.sentence("each sits down at the first empty SEAT beside which it CLASHES with nobody (no WALL), or goes "
            + "away.");
        OddTouch x = Kit.town("places 4;thing 0 count 1;thing 1 count 3;thing 2 count 4;thing 3 count 5;");
        Kit.fill(x, 0, 0, 1, 2, 3);
        String[] want = {"0", "0 2", "0 2 -1", "0 2 1 -1", "0 2 1 -1 -1", "0 2 1 -1 3 -1"};
        for (int n = 1; n <= want.length; n++) {
            StringBuilder got = new StringBuilder();
            int sitting = 0;
            for (int k = 0; k < n; k++) {
                int who = x.seats(0, n, 10 + k);
                got.append(k == 0 ? "" : " ").append(who);
                sitting += who == -1 ? 0 : 1;
            }
            Kit.due(n + " SEATS", got.toString(), want[n - 1]);
            Kit.due("how many sit at " + n, x.seats(0, n, 0), sitting);
        }
    }

    /** What remains of the terms and promises without headings, signatures and quoted sentences. */
    private static void everySentenceIsNamed() throws IOException {
        Kit.sentence("");
        String document = Files.readString(Path.of("../shared/DOC.md")).replaceAll("\\s+", " ");
        boolean[] named = new boolean[document.length()];
        for (String words : quotes()) {
            for (int at = document.indexOf(words); at >= 0; at = document.indexOf(words, at + 1)) {
                for (int i = at; i < at + words.length(); i++) {
                    named[i] = true;
                }
            }
        }
        StringBuilder left = new StringBuilder();
        int end = document.indexOf("## Not promised");
        for (int i = document.indexOf("## Terms") + 8; i < end; i++) {
            left.append(named[i] ? '\n' : document.charAt(i));
        }
        String rest = left.toString().replaceAll("## Promise \\d+: [\\w ]*(`[^`]*`:)?", "\n")
            .replaceAll("Ahead of the calls [^\n]*? the interface says: ---- [^.]*\\.", "\n")
            .replaceAll("```(text)?|==== \\d\\.", "\n");
        for (String part : rest.split("\n+")) {
            Kit.due("no test names: " + part.trim(), part.matches(".*\\w.*"), false);
        }
    }

    private static List<String> quotes() throws IOException {
        Pattern quote = Pattern.compile("sentence\\(((?:\\s*\"(?:[^\"\\\\]|\\\\.)*\"\\s*\\+?)+)\\)");
        Pattern piece = Pattern.compile("\"((?:[^\"\\\\]|\\\\.)*)\"");
        List<String> all = new ArrayList<>();
        try (DirectoryStream<Path> files = Files.newDirectoryStream(Path.of("src/test/java"), "*.java")) {
            for (Path file : files) {
                Matcher m = quote.matcher(Files.readString(file));
                while (m.find()) {
                    StringBuilder words = new StringBuilder();
                    Matcher p = piece.matcher(m.group(1));
                    while (p.find()) {
                        words.append(p.group(1));
                    }
                    if (words.length() > 0) {
                        all.add(words.toString());
                    }
                }
            }
        }
        Kit.due("quotes were found", all.size() > 100, true);
        return all;
    }
}
