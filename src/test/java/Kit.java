/** What all tests use: texts onto the tape, answers against what is due. */
final class Kit {

    interface Call {
        long answer();
    }

    private static int wrong;
    private static int checked;

    private Kit() {
    }

    /** Feeds a text, filled up with blanks; the tape must be empty. */
    static void feed(OddTouch x, String text) {
        for (int i = 0; i < text.length(); i += 20) {
            int[] v = new int[5];
            for (int k = 0; k < 20; k++) {
                int sign = i + k < text.length() ? text.charAt(i + k) : ' ';
                v[k / 4] = v[k / 4] << 8 | sign;
            }
            x.feed(v[0], v[1], v[2], v[3], v[4]);
        }
    }

    static int tell(OddTouch x, String text) {
        feed(x, text);
        return x.town(text.length());
    }

    static OddTouch town(String text) {
        OddTouch x = new OddTouch();
        int lines = tell(x, text);
        if (lines < 0) {
            System.out.println("a town that a test needs has a fault: " + lines + " " + text);
            wrong++;
        }
        return x;
    }

    static void due(String label, long got, long want) {
        checked++;
        if (got != want) {
            wrong++;
            System.out.println(label + ": answered " + got + ", due is " + want);
        }
    }

    static void due(String label, String got, String want) {
        checked++;
        if (!got.equals(want)) {
            wrong++;
            System.out.println(label + ": answered " + got + ", due is " + want);
        }
    }

    static void due(String label, boolean got, boolean want) {
        due(label, got ? 1 : 0, want ? 1 : 0);
    }

    /** An answer as text, or the exception's name. */
    static String outcome(Call call) {
        try {
            return Long.toString(call.answer());
        } catch (RuntimeException e) {
            return e.getClass().getSimpleName();
        }
    }

    /** The call throws just this, and nothing that can be asked changes by it. */
    static void dueThrow(OddTouch x, String label, Call call, Class<?> want) {
        String before = stateOf(x);
        due(label, outcome(call), want.getSimpleName());
        due(label + ", the state then", stateOf(x), before);
    }

    /** All that can be asked without changing anything. */
    static String stateOf(OddTouch x) {
        StringBuilder all = new StringBuilder();
        for (int what = -1; what <= 11; what++) {
            all.append(x.count(what)).append(' ');
        }
        all.append(x.fault(0)).append(' ').append(x.fault(1)).append(' ');
        for (int t = 0; t < x.count(2); t++) {
            for (int what = 0; what <= 7; what++) {
                all.append(x.thing(t, what)).append(' ');
            }
        }
        for (int p = 0; p < x.count(1); p++) {
            for (int what = 0; what <= 2; what++) {
                all.append(x.place(p, what)).append(' ');
            }
        }
        for (int e = 0; e < x.count(4); e++) {
            for (int what = 0; what <= 2; what++) {
                all.append(x.event(e, what)).append(' ');
            }
        }
        return all.toString();
    }

    /** A tray of 64 bits with these numbers. */
    static void fill(OddTouch x, int tray, long... numbers) {
        x.tray(tray, 3, numbers.length);
        for (int i = 0; i < numbers.length; i++) {
            x.write(tray, i, numbers[i]);
        }
    }

    static void end(String name) {
        System.out.println(name + ": " + checked + " checks, " + wrong + " wrong");
        if (wrong != 0 || checked == 0) {
            System.exit(1);
        }
    }
}
