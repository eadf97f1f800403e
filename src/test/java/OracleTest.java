import java.util.Random;

/** Runs of drawn calls: OddTouch and the Oracle must answer alike, exceptions too. */
final class OracleTest {

    private static final int RUNS = 1500;
    private static final int CALLS = 150;
    private static final int TEXTS = 30000;

    private final Random random;
    private final OddTouch x = new OddTouch();
    private final Oracle o = new Oracle();

    private OracleTest(long seed) {
        random = new Random(seed);
    }

    public static void main(String[] args) {
        for (int run = 0; run < RUNS; run++) {
            new OracleTest(run).run(run);
        }
        OracleTest texts = new OracleTest(4711);
        for (int i = 0; i < TEXTS; i++) {
            texts.brokenText(i);
        }
        Kit.end("OracleTest");
    }

    private int below(int n) {
        return random.nextInt(n);
    }

    private boolean oneIn(int n) {
        return below(n) == 0;
    }

    // ---- towns

    private String sum(int depth) {
        StringBuilder s = new StringBuilder(term(depth));
        while (oneIn(4)) {
            s.append(oneIn(2) ? "+" : " - ").append(term(depth));
        }
        return s.toString();
    }

    private String term(int depth) {
        StringBuilder s = new StringBuilder(atom(depth));
        while (oneIn(5)) {
            s.append("*").append(atom(depth));
        }
        return s.toString();
    }

    private String atom(int depth) {
        if (depth < 4 && oneIn(6)) {
            return "(" + sum(depth + 1) + ")";
        }
        String[] names = {"a", "b", "odda", "oddb", "evena", "evenb", "alike", "wall"};
        if (oneIn(3)) {
            return Integer.toString(oneIn(5) ? below(1000) : below(4));
        }
        return names[below(names.length)];
    }

    private String truth(int depth) {
        StringBuilder s = new StringBuilder(unit(depth));
        while (oneIn(3)) {
            s.append(oneIn(2) ? " or " : " and ").append(unit(depth));
        }
        return s.toString();
    }

    private String unit(int depth) {
        if (depth < 4 && oneIn(6)) {
            return "not " + unit(depth + 1);
        }
        if (depth < 4 && oneIn(6)) {
            return "[" + truth(depth + 1) + "]";
        }
        return sum(depth) + "=<>".charAt(below(3)) + sum(depth);
    }

    /** Small, large, or as full as a town can be. */
    private String drawTown(boolean large) {
        boolean full = large && oneIn(3);
        int places = full ? 10 : large ? 7 + below(4) : 1 + below(7);
        StringBuilder s = new StringBuilder("places " + places + ";");
        boolean[] taken = new boolean[places];
        boolean[][] joined = new boolean[places][places];
        int touches = below(Math.min(20, 2 * places) + 1);
        int told = 0;
        for (int i = 0; full ? told < 20 : i < touches; i++) {
            int p = below(places);
            int q = below(places);
            if (p != q && !joined[p][q] && told < 20) {
                joined[p][q] = true;
                joined[q][p] = true;
                told++;
                s.append("touch " + p + " " + q + (oneIn(4) ? " wall;" : ";"));
            }
        }
        int things = large ? 5 + below(4) : below(6);
        int laid = 0;
        for (int i = 0; full ? laid < 8 : i < things; i++) {
            int p = below(places);
            if (!taken[p]) {
                taken[p] = true;
                laid++;
                int count = oneIn(6) ? 0 : oneIn(8) ? 95 + below(5) : below(9);
                s.append("thing " + p + " count " + count);
                s.append(oneIn(3) ? " kind " + below(3) : "");
                s.append(oneIn(3) ? " slow " + (1 + below(4)) : "");
                s.append(oneIn(6) ? " stays;" : ";");
            }
        }
        int events = full ? 6 : laid == 0 ? 0 : below(large ? 7 : 5);
        for (int i = 0; i < events; i++) {
            s.append("event " + (oneIn(4) ? 500 : below(1000)) + " thing " + below(laid));
            s.append((oneIn(2) ? " more " : " less ") + (1 + below(9)) + ";");
        }
        String[] zeros = {"even", "odd", "both", "neither"};
        while (oneIn(3)) {
            s.append("zero " + zeros[below(4)] + ";");
        }
        while (oneIn(2)) {
            String law = "law " + truth(0) + ";";
            if (s.length() + law.length() <= 900) {
                s.append(law);
            }
        }
        return s.toString();
    }

    private void tell(String text, String label) {
        for (int i = 0; i < text.length(); i += 20) {
            int[] v = new int[5];
            for (int k = 0; k < 20; k++) {
                v[k / 4] = v[k / 4] << 8 | (i + k < text.length() ? text.charAt(i + k) & 255 : 32);
            }
            Kit.due(label + " feed", x.feed(v[0], v[1], v[2], v[3], v[4]),
                o.feed(v[0], v[1], v[2], v[3], v[4]));
        }
        Kit.due(label + " town " + text, Kit.outcome(() -> x.town(text.length())),
            Kit.outcome(() -> o.town(text.length())));
        Kit.due(label + " fault(0) of " + text, x.fault(0), o.fault(0));
        Kit.due(label + " fault(1) of " + text, x.fault(1), o.fault(1));
    }

    private void brokenText(int run) {
        StringBuilder s = new StringBuilder(drawTown(oneIn(4)));
        String signs = ";+-*()[]=<> \n0123456789abdnotewl$A\t\u00e4";
        String[] words = {" not ", "[", "(", " wall ", " thing ", "touch 0 1;", " stays", "1234",
            "law not not not not not not [1=1];", "places 3;", " event ", ";", " and ", "zero odd;"};
        for (int i = 1 + below(3); i > 0 && s.length() > 0; i--) {
            int at = below(s.length());
            switch (below(6)) {
                case 0:
                    while (!Character.isDigit(s.charAt(at)) && at > 0) {
                        at--;
                    }
                    s.setCharAt(at, (char) ('0' + below(10)));
                    break;
                case 1:
                    s.setCharAt(at, signs.charAt(below(signs.length())));
                    break;
                case 2:
                    s.deleteCharAt(at);
                    break;
                case 3:
                    s.insert(at, words[below(words.length)]);
                    break;
                case 4:
                    s.insert(at, signs.charAt(below(signs.length())));
                    break;
                default:
                    s.setLength(at + 1);
                    break;
            }
        }
        if (s.length() > 900) {
            s.setLength(900);
        }
        tell(s.toString(), "text " + run);
    }

    // ---- calls

    private void run(int run) {
        boolean large = run % 25 == 0;
        if (run % 10 != 0) {
            tell(drawTown(large), "run " + run);
        }
        int calls = large ? 40 : CALLS;
        for (int i = 0; i < calls; i++) {
            call("run " + run + " call " + i + " ", large);
        }
        Kit.due("run " + run + " in the end", Kit.stateOf(x), stateOfOracle());
    }

    private String stateOfOracle() {
        StringBuilder all = new StringBuilder();
        all.append(o.count(8) + " " + o.fault(0) + " " + o.fault(1) + " ");
        for (int what = -1; what <= 11; what++) {
            all.append(what == 8 ? "" : o.count(what) + " ");
        }
        for (int t = 0; t < o.count(2); t++) {
            for (int what = 0; what <= 7; what++) {
                all.append(o.thing(t, what)).append(' ');
            }
        }
        for (int p = 0; p < o.count(1); p++) {
            for (int what = 0; what <= 2; what++) {
                all.append(o.place(p, what)).append(' ');
            }
        }
        for (int e = 0; e < o.count(4); e++) {
            for (int what = 0; what <= 2; what++) {
                all.append(o.event(e, what)).append(' ');
            }
        }
        return all.toString();
    }

    private void same(String label, Kit.Call mine, Kit.Call other) {
        Kit.due(label, Kit.outcome(mine), Kit.outcome(other));
    }

    /** Mostly one that there is, now and then one beside it. */
    private int index(int size) {
        if (oneIn(12) || size == 0) {
            return oneIn(4) ? random.nextInt() : below(size + 3) - 1;
        }
        return below(size);
    }

    private void call(String label, boolean large) {
        int things = o.count(2);
        int places = o.count(1);
        int sort = below(48);
        if (sort < 12) {
            ask(label, sort, things, places);
        } else if (sort < 26) {
            act(label, sort, things, places);
        } else if (sort < 38) {
            search(label, sort, things);
        } else {
            handle(label, sort, things, large);
        }
    }

    private void ask(String label, int sort, int things, int places) {
        int t = index(things);
        int u = index(things);
        int p = index(places);
        int q = index(places);
        boolean b = oneIn(2);
        int what = index(8);
        switch (sort) {
            case 0:
                same(label + "thing", () -> x.thing(t, what), () -> o.thing(t, what));
                break;
            case 1:
                same(label + "place", () -> x.place(p, what / 2), () -> o.place(p, what / 2));
                break;
            case 2:
                same(label + "steps", () -> x.steps(p, q), () -> o.steps(p, q));
                break;
            case 3:
                same(label + "clash", () -> x.clash(t, u, b) ? 1 : 0, () -> o.clash(t, u, b));
                break;
            case 4:
                Kit.due(label + "clashes", x.clashes(), o.w.clashes());
                break;
            case 5:
                Kit.due(label + "firstClash", x.firstClash(), o.w.first());
                break;
            case 6:
                Kit.due(label + "why", x.why(t, p), o.w.why(t, p));
                break;
            case 7:
                same(label + "pleasure", () -> x.pleasure(t, p), () -> o.pleasure(t, p));
                break;
            case 8:
                Kit.due(label + "atRest", x.atRest(), o.w.rest());
                break;
            case 9:
                int e = index(o.count(4));
                same(label + "event", () -> x.event(e, what / 2), () -> o.event(e, what / 2));
                break;
            case 10:
                Kit.due(label + "count " + what, x.count(what + 3), o.count(what + 3));
                break;
            default:
                Kit.due(label + "sides", x.sides(), o.w.sides());
                break;
        }
    }

    private void act(String label, int sort, int things, int places) {
        int t = index(things);
        int p = index(places);
        int by = oneIn(10) ? below(300) - 150 : below(12) - 6;
        switch (sort) {
            case 12:
                same(label + "change", () -> x.change(t, by), () -> o.change(t, by));
                break;
            case 13:
            case 14:
            case 15:
                same(label + "move", () -> x.move(t, p), () -> o.move(t, p));
                break;
            case 16:
                int n = oneIn(6) ? index(12) : 1;
                same(label + "days", () -> x.days(n), () -> o.days(n));
                break;
            case 17:
                int back = oneIn(4) ? index(14) : 1 + below(2);
                same(label + "undo", () -> x.undo(back), () -> o.undo(back));
                break;
            case 18:
                int seed = random.nextInt();
                int times = oneIn(9) ? index(32) : 1 + below(5);
                same(label + "season", () -> x.season(seed, times), () -> o.season(seed, times));
                break;
            case 19:
                same(label + "mend", () -> x.mend(), () -> o.mend());
                break;
            case 20:
                same(label + "goWave", () -> x.goWave(), () -> o.goWave());
                break;
            case 21:
                same(label + "drift", () -> x.drift(), () -> o.drift());
                break;
            case 22:
                int i = index(3);
                same(label + "image", () -> imageOf(i), () -> o.image(i));
                break;
            case 23:
                int r = index(3);
                same(label + "restore", () -> restoreOf(r), () -> o.restore(r));
                break;
            case 24:
                if (oneIn(10)) {
                    tell(drawTown(false), label + "another town");
                } else if (oneIn(10)) {
                    brokenText(0);
                }
                break;
            default:
                int many = oneIn(2) ? below(30) - 3 : random.nextInt();
                if (many > o.count(8) || many < 0) {
                    same(label + "town(n)", () -> x.town(many), () -> o.town(many));
                }
                break;
        }
    }

    private int imageOf(int i) {
        x.image(i);
        return 0;
    }

    private int restoreOf(int i) {
        x.restore(i);
        return 0;
    }

    private int part(int parts) {
        return oneIn(3) ? below(3) : 10 + index(parts);
    }

    private void search(String label, int sort, int things) {
        int what = index(3);
        boolean b = oneIn(2);
        switch (sort) {
            case 26:
                same(label + "oddRing", () -> x.oddRing(what), () -> o.oddRing(what));
                break;
            case 27:
                Kit.due(label + "placings", x.placings(), o.w.placings().size());
                break;
            case 28:
                int t = index(things);
                int k = oneIn(3) ? index(3) : below(2 + o.w.placings().size());
                same(label + "placing " + k, () -> x.placing(k, t), () -> o.placing(k, t));
                break;
            case 29:
            case 30:
                int m = part(things);
                same(label + "mending " + m, () -> x.mending(m), () -> o.mending(m));
                break;
            case 31:
                same(label + "flips", () -> x.flips(what), () -> o.flips(what));
                break;
            case 32:
                same(label + "wave", () -> x.wave(what), () -> o.wave(what));
                break;
            case 33:
            case 34:
                int c = part(6);
                same(label + "calm " + c, () -> x.calm(c), () -> o.calm(c));
                break;
            default:
                int set = oneIn(9) ? random.nextInt() : below(1 << things);
                int r = part(8);
                if (Integer.bitCount(set) < 8 || set >= 1 << things || oneIn(9)) {
                    same(label + "bestRow " + set + b + r, () -> x.bestRow(set, b, r),
                        () -> o.bestRow(set, b, r));
                }
                break;
        }
    }

    private void handle(String label, int sort, int things, boolean large) {
        int tray = index(4);
        boolean b = oneIn(2);
        int what = index(4);
        switch (sort) {
            case 38:
                int width = index(4);
                int many = index(oneIn(3) ? 31 : 5);
                same(label + "tray", () -> trayOf(tray, width, many),
                    () -> o.tray(tray, width, many));
                break;
            case 39:
                int to = index(5);
                long v = oneIn(2) ? random.nextLong() : random.nextInt();
                same(label + "write", () -> x.write(tray, to, v), () -> o.write(tray, to, v));
                break;
            case 40:
                same(label + "pour", () -> x.pour(tray), () -> o.pour(tray));
                break;
            case 41:
                fillWithDeeds(label, below(4), things);
                same(label + "judge", () -> x.judge(tray, what), () -> o.judge(tray, what));
                break;
            case 42:
                fillWithDeeds(label, below(4), things);
                same(label + "perform", () -> x.perform(tray), () -> o.perform(tray));
                break;
            case 43:
                fillWithGuests(label, below(4), things);
                same(label + "goats", () -> x.goats(tray, b), () -> o.goats(tray, b));
                break;
            case 44:
            case 45:
                fillWithGuests(label, below(4), things);
                int seats = 1 + index(10);
                int s = part(10);
                same(label + "seats", () -> x.seats(tray, seats, s),
                    () -> o.seats(tray, seats, s));
                break;
            case 46:
                fillWithSights(label, below(4), large);
                same(label + "seen", () -> x.seen(tray), () -> o.seen(tray));
                break;
            default:
                fillWithSights(label, below(4), large);
                int k = below(4);
                same(label + "sure", () -> x.sure(tray, k), () -> o.sure(tray, k));
                break;
        }
    }

    private int trayOf(int tray, int sort, int many) {
        x.tray(tray, sort, many);
        return 0;
    }

    private void fill(String label, int tray, long[] numbers) {
        int sort = below(4);
        x.tray(tray, sort, numbers.length);
        o.tray(tray, sort, numbers.length);
        for (int i = 0; i < numbers.length; i++) {
            Kit.due(label + "fill", x.write(tray, i, numbers[i]), o.write(tray, i, numbers[i]));
        }
    }

    private void fillWithDeeds(String label, int tray, int things) {
        long[] told = new long[below(oneIn(8) ? 31 : 7)];
        for (int i = 0; i < told.length; i++) {
            told[i] = oneIn(20) ? below(400) - 20 : 10 * below(things + 1) + below(10);
            told[i] += oneIn(2) ? 100 * below(3) : 0;
            told[i] = oneIn(8) ? -1 : told[i];
        }
        fill(label, tray, told);
    }

    private void fillWithGuests(String label, int tray, int things) {
        int many = oneIn(15) ? below(12) : things;
        long[] row = new long[many];
        for (int i = 0; i < many; i++) {
            row[i] = i;
        }
        for (int i = many - 1; i > 0; i--) {
            int k = below(i + 1);
            long v = row[i];
            row[i] = row[k];
            row[k] = v;
        }
        if (many > 0 && oneIn(15)) {
            row[below(many)] = below(10) - 1;
        }
        int cut = oneIn(2) ? many : below(many + 1);
        fill(label, tray, java.util.Arrays.copyOf(row, cut));
    }

    private void fillWithSights(String label, int tray, boolean large) {
        int many = oneIn(15) ? below(6) : 1 + below(large ? 3 : 4);
        long[] row = new long[many];
        for (int i = 0; i < many; i++) {
            row[i] = oneIn(30) ? random.nextInt() : oneIn(4) ? -1 : below(3);
        }
        fill(label, tray, row);
    }
}
