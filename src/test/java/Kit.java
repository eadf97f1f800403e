import java.io.IOException;
import java.io.UncheckedIOException;
import java.nio.file.Files;
import java.nio.file.Path;

/** What all tests use: texts onto the tape, answers against what is due. */
final class Kit {

    interface Call {
        long answer();
    }

    /** Makes the same object each time. */
    interface Maker {
        OddTouch make();
    }

    interface Use {
        long on(OddTouch x);
    }

    static final String NO_SUCH = "NoSuchElementException";
    static final String STATE = "IllegalStateException";
    static final String ARGUMENT = "IllegalArgumentException";
    static final String INDEX = "IndexOutOfBoundsException";

    private static int wrong;
    private static int checked;
    private static String document;
    private static String quoted = "";

    private Kit() {
    }

    /** Feeds a text, filled up with blanks; the tape must be empty. */
    static void feed(OddTouch x, String text) {
        for (int i = 0; i < text.length(); i += 20) {
            int[] v = new int[5];
            for (int k = 0; k < 20; k++) {
                int sign = i + k < text.length() ? text.charAt(i + k) : ' ';
                v[k / 4] = v[k / 4] << 8 | sign;
            }
            x.feed(v[0], v[1], v[2], v[3], v[4]);
        }
    }

    static int tell(OddTouch x, String text) {
        feed(x, text);
        return x.town(text.length());
    }

    static OddTouch town(String text) {
        OddTouch x = new OddTouch();
        int lines = tell(x, text);
        if (lines < 0) {
            System.out.println("a town that a test needs has a fault: " + lines + " " + text);
            wrong++;
        }
        return x;
    }

    /** What is checked from here on is for these words, which must stand in the document; "": for none. */
    static void sentence(String words) {
        if (document == null) {
            try {
                document = Files.readString(Path.of("../shared/DOC.md")).replaceAll("\\s+", " ");
            } catch (IOException e) {
                throw new UncheckedIOException(e);
            }
        }
        quoted = "";
        due("the document says: " + words, document.contains(words), true);
        quoted = words.isEmpty() ? "" : "\"" + words + "\": ";
    }

    static void due(String label, long got, long want) {
        due(label, Long.toString(got), Long.toString(want));
    }

    static void due(String label, String got, String want) {
        checked++;
        if (!got.equals(want)) {
            wrong++;
            System.out.println(quoted + label + ": answered " + got + ", due is " + want);
        }
    }

    static void due(String label, boolean got, boolean want) {
        due(label, got ? 1 : 0, want ? 1 : 0);
    }

    /** An answer as text, or the exception's name. */
    static String outcome(Call call) {
        try {
            return Long.toString(call.answer());
        } catch (RuntimeException e) {
            return e.getClass().getSimpleName();
        }
    }

    /** The call throws just this, and nothing that can be asked changes by it. */
    static void dueThrow(OddTouch x, String label, Call call, Class<?> want) {
        String before = stateOf(x);
        due(label, outcome(call), want.getSimpleName());
        due(label + ", the state then", stateOf(x), before);
    }

    /** The call answers or throws as due, and what comes then is as if it had never come. */
    static void refused(Maker maker, String label, Use call, String want) {
        OddTouch x = maker.make();
        due(label, outcome(() -> call.on(x)), want);
        due(label + ", what comes then", wholeOf(x), wholeOf(maker.make()));
    }

    /** As refused: for calls that only ask. */
    static void asked(Maker maker, String label, Use call, long want) {
        refused(maker, label, call, Long.toString(want));
    }

    /** All that later calls can find out; the object is used up by it. */
    static String wholeOf(OddTouch x) {
        String outside = x.count(8) + " " + x.fault(0) + " " + x.fault(1);
        String inside = restOf(x);
        int lines = x.town(x.count(8));
        return outside + "|" + inside + "|tape " + lines + " " + stateOf(x);
    }

    /** As wholeOf, but for the tape and the fault. */
    static String restOf(OddTouch x) {
        StringBuilder all = new StringBuilder(sceneOf(x)).append(lawOf(x));
        for (int i = 0; i < 4; i++) {
            all.append("|tray ").append(i).append(trayOf(x, i));
        }
        all.append("|deeds").append(deedsOf(x));
        for (int i = 0; i < 3; i++) {
            int image = i;
            all.append("|image ").append(i).append(' ');
            all.append(outcome(() -> restoreOf(x, image))).append(' ');
            all.append(sceneOf(x)).append(lawOf(x)).append(deedsOf(x));
        }
        return all.toString();
    }

    private static String lawOf(OddTouch x) {
        StringBuilder all = new StringBuilder("|law ");
        for (int t = 0; t < x.count(2); t++) {
            for (int u = t + 1; u < x.count(2); u++) {
                all.append(x.clash(t, u, false) ? 1 : 0).append(x.clash(u, t, true) ? 1 : 0);
            }
        }
        return all.toString();
    }

    private static String trayOf(OddTouch x, int tray) {
        StringBuilder all = new StringBuilder();
        for (int i = 0; i < 4; i++) {
            int what = i;
            all.append(' ').append(outcome(() -> x.judge(tray, what)));
        }
        all.append(' ').append(outcome(() -> x.goats(tray, false)));
        all.append(' ').append(outcome(() -> x.seats(tray, 3, 10)));
        all.append(' ').append(outcome(() -> x.seen(tray)));
        all.append(' ').append(outcome(() -> x.sure(tray, 0)));
        for (int place : new int[] {0, 1, 2, 3, 4, 29, 30}) {
            all.append(' ').append(outcome(() -> x.write(tray, place, 0x123456789abcdef0L)));
        }
        return all.toString();
    }

    /** Undoes all deeds, one by one. */
    private static String deedsOf(OddTouch x) {
        StringBuilder all = new StringBuilder();
        for (int i = 0; i < 12 && x.count(7) > 0; i++) {
            all.append(" back ").append(x.undo(1)).append(':');
            for (int t = 0; t < x.count(2); t++) {
                all.append(' ').append(x.thing(t, 0)).append(' ').append(x.thing(t, 1));
            }
            all.append(' ').append(x.count(5)).append(' ').append(x.count(6));
        }
        return all.toString();
    }

    static long imageOf(OddTouch x, int i) {
        x.image(i);
        return 0;
    }

    static long restoreOf(OddTouch x, int i) {
        x.restore(i);
        return 0;
    }

    static long layTray(OddTouch x, int tray, int sort, int many) {
        x.tray(tray, sort, many);
        return 0;
    }

    /** All that can be asked without changing anything, but for trays, deeds and images. */
    static String stateOf(OddTouch x) {
        return x.count(8) + " " + x.fault(0) + " " + x.fault(1) + " " + sceneOf(x);
    }

    /** As stateOf, but for the tape and the fault. */
    static String sceneOf(OddTouch x) {
        StringBuilder all = new StringBuilder();
        for (int what = -1; what <= 11; what++) {
            all.append(what == 8 ? "" : x.count(what) + " ");
        }
        for (int t = 0; t < x.count(2); t++) {
            for (int what = 0; what <= 7; what++) {
                all.append(x.thing(t, what)).append(' ');
            }
        }
        for (int p = 0; p < x.count(1); p++) {
            for (int what = 0; what <= 2; what++) {
                all.append(x.place(p, what)).append(' ');
            }
        }
        for (int e = 0; e < x.count(4); e++) {
            for (int what = 0; what <= 2; what++) {
                all.append(x.event(e, what)).append(' ');
            }
        }
        return all.toString();
    }

    /** A tray of 64 bits with these numbers. */
    static void fill(OddTouch x, int tray, long... numbers) {
        x.tray(tray, 3, numbers.length);
        for (int i = 0; i < numbers.length; i++) {
            x.write(tray, i, numbers[i]);
        }
    }

    static void end(String name) {
        System.out.println(name + ": " + checked + " checks, " + wrong + " wrong");
        if (wrong != 0 || checked == 0) {
            System.exit(1);
        }
    }
}
