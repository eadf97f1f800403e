import java.util.ArrayDeque;
import java.util.ArrayList;
import java.util.Arrays;
import java.util.HashSet;
import java.util.List;
import java.util.NoSuchElementException;
import java.util.Set;

/**
 * The document once more, by brute force and with the Java library: what OddTouch does cleverly is
 * done here by trying everything.
 */
final class Oracle {

    interface Num {
        long of(int[] names);
    }

    interface Truth {
        boolean of(int[] names);
    }

    static final class Fault extends RuntimeException {
        private static final long serialVersionUID = 1L;
        final int kind;
        final int at;

        Fault(int kind, int at) {
            this.kind = kind;
            this.at = at;
        }
    }

    /** All that an image keeps. */
    static final class World implements Cloneable {
        int lines;
        int places;
        List<int[]> touches = new ArrayList<>();
        List<int[]> things = new ArrayList<>();
        List<int[]> events = new ArrayList<>();
        String zero = "even";
        Truth law;
        int[] at = new int[0];
        int[] count = new int[0];
        int time;
        int pain;
        ArrayDeque<int[][]> deeds = new ArrayDeque<>();

        World copy() {
            try {
                World w = (World) clone();
                w.at = at.clone();
                w.count = count.clone();
                w.deeds = new ArrayDeque<>(deeds);
                return w;
            } catch (CloneNotSupportedException e) {
                throw new IllegalStateException(e);
            }
        }

        int n() {
            return things.size();
        }

        boolean odd(int c) {
            return c == 0 ? zero.equals("odd") || zero.equals("both") : c % 2 == 1;
        }

        boolean even(int c) {
            return c == 0 ? zero.equals("even") || zero.equals("both") : c % 2 == 0;
        }

        /** 0: they do not touch, 1: they do, 2: through a wall. */
        int touch(int p, int q) {
            for (int[] t : touches) {
                if (t[0] == p && t[1] == q || t[0] == q && t[1] == p) {
                    return 1 + t[2];
                }
            }
            return 0;
        }

        boolean bad(int t, int u, int[] counts, boolean wall) {
            int lo = Math.min(t, u);
            int hi = Math.max(t, u);
            int a = counts[lo];
            int b = counts[hi];
            if (law == null) {
                return odd(a) && odd(b);
            }
            return !law.of(new int[] {a, b, odd(a) ? 1 : 0, odd(b) ? 1 : 0, even(a) ? 1 : 0,
                even(b) ? 1 : 0, things.get(lo)[0] == things.get(hi)[0] ? 1 : 0, wall ? 1 : 0});
        }

        boolean clash(int t, int u, int[] where, int[] counts) {
            int how = touch(where[t], where[u]);
            return how != 0 && bad(t, u, counts, how == 2);
        }

        int clashes(int[] where, int[] counts) {
            int many = 0;
            for (int t = 0; t < n(); t++) {
                for (int u = t + 1; u < n(); u++) {
                    many += clash(t, u, where, counts) ? 1 : 0;
                }
            }
            return many;
        }

        int clashes() {
            return clashes(at, count);
        }

        int steps(int p, int q) {
            int[][] d = new int[places][places];
            for (int[] row : d) {
                Arrays.fill(row, 1000);
            }
            for (int i = 0; i < places; i++) {
                d[i][i] = 0;
            }
            for (int[] t : touches) {
                d[t[0]][t[1]] = 1;
                d[t[1]][t[0]] = 1;
            }
            for (int k = 0; k < places; k++) {
                for (int i = 0; i < places; i++) {
                    for (int j = 0; j < places; j++) {
                        d[i][j] = Math.min(d[i][j], d[i][k] + d[k][j]);
                    }
                }
            }
            return d[p][q] >= 1000 ? -1 : d[p][q];
        }

        int who(int p) {
            for (int t = 0; t < n(); t++) {
                if (at[t] == p) {
                    return t;
                }
            }
            return -1;
        }

        int why(long t, long p) {
            if (t < 0 || t >= n() || p < 0 || p >= places) {
                return 1;
            }
            if (things.get((int) t)[2] == 1) {
                return 2;
            }
            if (who((int) p) >= 0) {
                return 3;
            }
            return steps(at[(int) t], (int) p) < 0 ? 4 : 0;
        }

        void goOn(int minutes) {
            pain += minutes * clashes();
            time += minutes;
        }

        void deed() {
            deeds.addLast(new int[][] {at.clone(), count.clone(), {time, pain}});
            if (deeds.size() > 12) {
                deeds.removeFirst();
            }
        }

        int minutes(int t, int p) {
            return steps(at[t], p) * things.get(t)[1];
        }

        int move(int t, int p) {
            int m = minutes(t, p);
            goOn(m);
            at[t] = p;
            return m;
        }

        void more(int t, int by) {
            count[t] = Math.max(0, Math.min(99, count[t] + by));
        }

        void day() {
            for (int m = 0; m < 1000; m++) {
                for (int[] e : events) {
                    if (e[0] == m) {
                        more(e[1], e[2]);
                    }
                }
                goOn(1);
            }
        }

        int whyTold(long v) {
            if (v == -1) {
                return 0;
            }
            if (v >= 0 && v < 100) {
                return why(v / 10, v % 10);
            }
            if (v >= 100 && v < 300 && v % 10 != 0 && v % 100 / 10 < n()) {
                return 0;
            }
            return 1;
        }

        void told(long v) {
            int t = (int) (v % 100 / 10);
            int last = (int) (v % 10);
            if (v == -1) {
                day();
            } else if (v < 100) {
                move(t, last);
            } else {
                more(t, v < 200 ? last : -last);
            }
        }

        int flip(int c) {
            return c == 99 ? 98 : c + 1;
        }

        void allPlacings(int t, int[] where, List<int[]> into) {
            if (t == n()) {
                if (clashes(where, count) == 0) {
                    into.add(where.clone());
                }
                return;
            }
            for (int p = 0; p < places; p++) {
                boolean ok = things.get(t)[2] == 0 || at[t] == p;
                for (int u = 0; u < t; u++) {
                    ok &= where[u] != p && !(where[u] != p && clashAt(t, u, p, where[u]));
                }
                if (ok) {
                    where[t] = p;
                    allPlacings(t + 1, where, into);
                }
            }
        }

        private boolean clashAt(int t, int u, int p, int q) {
            int how = touch(p, q);
            return how != 0 && bad(t, u, count, how == 2);
        }

        List<int[]> placings() {
            List<int[]> all = new ArrayList<>();
            allPlacings(0, new int[n()], all);
            return all;
        }

        /** moved, minutes, then the places; null: none. */
        int[] mending() {
            int[] best = null;
            for (int[] w : placings()) {
                int[] m = new int[2 + n()];
                boolean can = true;
                for (int t = 0; t < n(); t++) {
                    m[2 + t] = w[t];
                    m[0] += w[t] == at[t] ? 0 : 1;
                    int s = steps(at[t], w[t]);
                    can &= s >= 0;
                    m[1] += s * things.get(t)[1];
                }
                if (can && (best == null || m[0] < best[0] || m[0] == best[0] && m[1] < best[1])) {
                    best = m;
                }
            }
            return best;
        }

        int flips() {
            for (int many = 0; many <= n(); many++) {
                for (int set = 0; set < 1 << n(); set++) {
                    if (Integer.bitCount(set) == many) {
                        int[] c = count.clone();
                        for (int t = 0; t < n(); t++) {
                            c[t] = (set >> t & 1) == 1 ? flip(c[t]) : c[t];
                        }
                        if (clashes(at, c) == 0) {
                            return set;
                        }
                    }
                }
            }
            return -1;
        }

        int wave() {
            int moves = 0;
            while (moves < 50 && clashes() > 0) {
                int first = first();
                int t = first / 10;
                int u = first % 10;
                int p = refuge(t);
                int q = refuge(u);
                if (p < 0 && q < 0) {
                    break;
                }
                int mt = p < 0 ? 100000 : minutes(t, p);
                int mu = q < 0 ? 100000 : minutes(u, q);
                boolean lesser;
                if (mt != mu) {
                    lesser = mt < mu;
                } else if (even(count[t]) != even(count[u])) {
                    lesser = even(count[t]);
                } else {
                    lesser = false;
                }
                if (lesser) {
                    move(t, p);
                } else {
                    move(u, q);
                }
                moves++;
            }
            return moves;
        }

        int refuge(int t) {
            for (int m = 1; m <= 81; m++) {
                for (int p = 0; p < places; p++) {
                    if (why(t, p) == 0 && minutes(t, p) == m) {
                        int[] w = at.clone();
                        w[t] = p;
                        boolean quiet = true;
                        for (int u = 0; u < n(); u++) {
                            quiet &= u == t || !clash(t, u, w, count);
                        }
                        if (quiet) {
                            return p;
                        }
                    }
                }
            }
            return -1;
        }

        int first() {
            for (int t = 0; t < n(); t++) {
                for (int u = t + 1; u < n(); u++) {
                    if (clash(t, u, at, count)) {
                        return 10 * t + u;
                    }
                }
            }
            return -1;
        }

        /** The sum, then the order. */
        int[] calm() {
            int[] best = null;
            for (List<Integer> order : permutations(events.size())) {
                int[] c = count.clone();
                int[] m = new int[1 + order.size()];
                for (int i = 0; i < order.size(); i++) {
                    int[] e = events.get(order.get(i));
                    c[e[1]] = Math.max(0, Math.min(99, c[e[1]] + e[2]));
                    m[0] += clashes(at, c);
                    m[1 + i] = order.get(i);
                }
                if (best == null || m[0] < best[0]) {
                    best = m;
                }
            }
            return best;
        }

        static List<List<Integer>> permutations(int n) {
            List<List<Integer>> all = new ArrayList<>();
            permute(n, new ArrayList<>(), all);
            return all;
        }

        private static void permute(int n, List<Integer> begun, List<List<Integer>> all) {
            if (begun.size() == n) {
                all.add(new ArrayList<>(begun));
                return;
            }
            for (int i = 0; i < n; i++) {
                if (!begun.contains(i)) {
                    begun.add(i);
                    permute(n, begun, all);
                    begun.remove(begun.size() - 1);
                }
            }
        }

        int goats(int[] row, boolean round) {
            int goats = 0;
            for (int i = 0; i + 1 < row.length; i++) {
                goats += bad(row[i], row[i + 1], count, false) ? 1 : 0;
            }
            if (round && row.length > 2) {
                goats += bad(row[row.length - 1], row[0], count, false) ? 1 : 0;
            }
            return goats;
        }

        int pleasure(int t, int p) {
            int joy = 0;
            int[] w = at.clone();
            w[t] = p;
            for (int u = 0; u < n(); u++) {
                if (u != t) {
                    joy += touch(p, w[u]) != 0 ? 2 : 0;
                    joy -= clash(t, u, w, count) ? 5 : 0;
                }
            }
            return joy;
        }

        int drift() {
            int moves = 0;
            for (int round = 0; round < 20; round++) {
                boolean changed = false;
                for (int t = 0; t < n(); t++) {
                    int best = pleasure(t, at[t]);
                    int to = -1;
                    for (int p = places - 1; p >= 0; p--) {
                        if (why(t, p) == 0) {
                            int joy = pleasure(t, p);
                            if (joy > best || joy == best && to >= 0) {
                                best = joy;
                                to = p;
                            }
                        }
                    }
                    if (to >= 0) {
                        at[t] = to;
                        moves++;
                        changed = true;
                    }
                }
                if (!changed) {
                    break;
                }
            }
            return moves;
        }

        boolean rest() {
            for (int t = 0; t < n(); t++) {
                for (int p = 0; p < places; p++) {
                    if (why(t, p) == 0 && pleasure(t, p) > pleasure(t, at[t])) {
                        return false;
                    }
                }
            }
            return true;
        }

        void stories(long[] told, List<Integer> begun, int[] c, List<List<Integer>> all) {
            if (begun.size() == told.length) {
                all.add(new ArrayList<>(begun));
                return;
            }
            for (int t = -1; t < n(); t++) {
                int[] d = c.clone();
                if (t >= 0) {
                    d[t] = flip(d[t]);
                }
                long want = told[begun.size()];
                if (want == -1 || want == clashes(at, d)) {
                    begun.add(t);
                    stories(told, begun, d, all);
                    begun.remove(begun.size() - 1);
                }
            }
        }

        int ring() {
            int best = -1;
            for (int set = 1; set < 1 << places; set++) {
                int many = Integer.bitCount(set);
                if (many % 2 == 1 && many > 1 && (best < 0 || many < Integer.bitCount(best))) {
                    int start = Integer.numberOfTrailingZeros(set);
                    if (walksRound(start, start, set & ~(1 << start))) {
                        best = set;
                    }
                }
            }
            return best;
        }

        private boolean walksRound(int start, int p, int rest) {
            if (rest == 0) {
                return touch(p, start) != 0;
            }
            for (int q = 0; q < places; q++) {
                if ((rest >> q & 1) == 1 && touch(p, q) != 0
                        && walksRound(start, q, rest & ~(1 << q))) {
                    return true;
                }
            }
            return false;
        }

        int sides() {
            for (int set = 0; set < 1 << places; set++) {
                boolean ok = true;
                for (int[] t : touches) {
                    ok &= (set >> t[0] & 1) != (set >> t[1] & 1);
                }
                for (int p = 0; p < places; p++) {
                    boolean least = true;
                    for (int q = 0; q < p; q++) {
                        least &= steps(p, q) < 0;
                    }
                    ok &= !least || (set >> p & 1) == 1;
                }
                if (ok) {
                    return set;
                }
            }
            return -1;
        }
    }

    World w = new World();
    private String tape = "";
    private int fault;
    private int faultAt = -1;
    private final long[][] trays = new long[4][];
    private final int[] sorts = new int[4];
    private final World[] images = new World[3];

    // ---- the calls

    int feed(int a, int b, int c, int d, int e) {
        if (tape.length() + 20 > 900) {
            return -1;
        }
        StringBuilder more = new StringBuilder(tape);
        for (int v : new int[] {a, b, c, d, e}) {
            more.append((char) (v >> 24 & 255)).append((char) (v >> 16 & 255));
            more.append((char) (v >> 8 & 255)).append((char) (v & 255));
        }
        tape = more.toString();
        return tape.length();
    }

    int town(int n) {
        if (n < 0 || n > tape.length()) {
            throw new IllegalArgumentException();
        }
        String text = tape.substring(0, n);
        tape = "";
        try {
            World read = new TextReader(text).read();
            w = read;
            fault = 0;
            faultAt = -1;
            return w.lines;
        } catch (Fault f) {
            fault = f.kind;
            faultAt = f.at;
            return -10 - f.kind;
        }
    }

    int fault(int what) {
        return what == 0 ? fault : what == 1 ? faultAt : -1;
    }

    private void needThing(int t) {
        if (t < 0 || t >= w.n()) {
            throw new NoSuchElementException();
        }
    }

    private void needPlace(int p) {
        if (p < 0 || p >= w.places) {
            throw new NoSuchElementException();
        }
    }

    private static void need(boolean ok) {
        if (!ok) {
            throw new IllegalArgumentException();
        }
    }

    int thing(int t, int what) {
        needThing(t);
        need(what >= 0 && what <= 7);
        int foes = 0;
        for (int u = 0; u < w.n(); u++) {
            foes |= u != t && w.clash(t, u, w.at, w.count) ? 1 << u : 0;
        }
        int[] own = w.things.get(t);
        return new int[] {w.at[t], w.count[t], own[0], own[1], own[2], w.odd(w.count[t]) ? 1 : 0,
            w.even(w.count[t]) ? 1 : 0, foes}[what];
    }

    int place(int p, int what) {
        needPlace(p);
        need(what >= 0 && what <= 2);
        int all = 0;
        int walls = 0;
        for (int q = 0; q < w.places; q++) {
            all |= w.touch(p, q) > 0 ? 1 << q : 0;
            walls |= w.touch(p, q) == 2 ? 1 << q : 0;
        }
        return new int[] {w.who(p), all, walls}[what];
    }

    int steps(int p, int q) {
        needPlace(p);
        needPlace(q);
        return w.steps(p, q);
    }

    int clash(int t, int u, boolean wall) {
        needThing(t);
        needThing(u);
        need(t != u);
        return w.bad(t, u, w.count, wall) ? 1 : 0;
    }

    int change(int t, int by) {
        needThing(t);
        need(by >= -99 && by <= 99);
        w.deed();
        w.more(t, by);
        return w.count[t];
    }

    int move(int t, int p) {
        int why = w.why(t, p);
        if (why > 0) {
            return -why;
        }
        w.deed();
        return w.move(t, p);
    }

    int days(int n) {
        need(n >= 1 && n <= 9);
        int pain = w.pain;
        for (int i = 0; i < n; i++) {
            w.deed();
            w.day();
        }
        return w.pain - pain;
    }

    int undo(int n) {
        need(n >= 1 && n <= 12 && n <= w.deeds.size());
        for (int i = 0; i < n; i++) {
            int[][] was = w.deeds.removeLast();
            w.at = was[0].clone();
            w.count = was[1].clone();
            w.time = was[2][0];
            w.pain = was[2][1];
        }
        return w.deeds.size();
    }

    private long[] trayOf(int tray) {
        if (tray < 0 || tray > 3) {
            throw new NoSuchElementException();
        }
        if (trays[tray] == null) {
            throw new IllegalStateException();
        }
        return trays[tray];
    }

    int judge(int tray, int what) {
        long[] told = trayOf(tray);
        need(what >= 0 && what <= 3);
        World as = w.copy();
        int at = -1;
        int why = 0;
        for (int i = 0; i < told.length && why == 0; i++) {
            why = as.whyTold(told[i]);
            if (why != 0) {
                at = i;
            } else {
                as.told(told[i]);
            }
        }
        return new int[] {at, why, as.time - w.time, as.clashes()}[what];
    }

    int perform(int tray) {
        int made = 0;
        for (long v : trayOf(tray)) {
            if (w.whyTold(v) != 0) {
                break;
            }
            w.deed();
            w.told(v);
            made++;
        }
        return made;
    }

    private int x;

    private int draw() {
        x = 1103515245 * x + 12345;
        return x >>> 16;
    }

    int season(int seed, int times) {
        need(times >= 1 && times <= 30);
        if (w.n() == 0) {
            throw new IllegalStateException();
        }
        x = seed;
        int could = 0;
        for (int i = 0; i < times; i++) {
            int sort = draw() % 3;
            if (sort == 0) {
                w.deed();
                w.day();
                could++;
            } else if (sort == 1) {
                int t = draw() % w.n();
                int by = 1 + draw() % 9;
                w.deed();
                w.more(t, by);
                could++;
            } else {
                int t = draw() % w.n();
                int p = draw() % w.places;
                could += move(t, p) > 0 ? 1 : 0;
            }
        }
        return could;
    }

    int oddRing(int what) {
        need(what == 0 || what == 1);
        int set = w.ring();
        return set < 0 || what == 1 ? set : Integer.bitCount(set);
    }

    int placing(int k, int t) {
        needThing(t);
        need(k >= 0);
        List<int[]> all = w.placings();
        return k < all.size() ? all.get(k)[t] : -1;
    }

    int mending(int what) {
        need(what == 0 || what == 1 || what >= 10 && what < 10 + w.n());
        int[] m = w.mending();
        return m == null ? -1 : what < 10 ? m[what] : m[2 + what - 10];
    }

    int mend() {
        int[] m = w.mending();
        if (m == null) {
            throw new IllegalStateException();
        }
        w.deed();
        w.at = Arrays.copyOfRange(m, 2, m.length);
        return m[0];
    }

    int flips(int what) {
        need(what == 0 || what == 1);
        int set = w.flips();
        return set < 0 || what == 1 ? set : Integer.bitCount(set);
    }

    int wave(int what) {
        need(what >= 0 && what <= 2);
        World as = w.copy();
        int moves = as.wave();
        return new int[] {moves, as.time - w.time, as.clashes()}[what];
    }

    int goWave() {
        w.deed();
        return w.wave();
    }

    int calm(int what) {
        need(what == 0 || what >= 10 && what <= 15);
        int[] m = w.calm();
        return what == 0 ? m[0] : what - 9 < m.length ? m[what - 9] : -1;
    }

    int event(int e, int what) {
        if (e < 0 || e >= w.events.size()) {
            throw new NoSuchElementException();
        }
        need(what >= 0 && what <= 2);
        return w.events.get(e)[what];
    }

    private int[] rowOf(int tray) {
        long[] told = trayOf(tray);
        need(told.length >= 1 && told.length <= 10);
        Set<Long> come = new HashSet<>();
        int[] row = new int[told.length];
        for (int i = 0; i < told.length; i++) {
            need(told[i] >= 0 && told[i] < w.n() && come.add(told[i]));
            row[i] = (int) told[i];
        }
        return row;
    }

    int goats(int tray, boolean round) {
        return w.goats(rowOf(tray), round);
    }

    int bestRow(int set, boolean round, int what) {
        need((set & ~((1 << w.n()) - 1)) == 0);
        need(what == 0 || what >= 10 && what <= 17);
        List<Integer> members = new ArrayList<>();
        for (int t = 0; t < w.n(); t++) {
            if ((set >> t & 1) == 1) {
                members.add(t);
            }
        }
        int[] best = null;
        for (List<Integer> order : World.permutations(members.size())) {
            int[] row = order.stream().mapToInt(members::get).toArray();
            if (best == null || w.goats(row, round) < w.goats(best, round)) {
                best = row;
            }
        }
        return what == 0 ? w.goats(best, round) : what - 10 < best.length ? best[what - 10] : -1;
    }

    int seats(int tray, int n, int what) {
        int[] row = rowOf(tray);
        need(n >= 1 && n <= 10);
        need(what == 0 || what >= 10 && what <= 19);
        int[] seat = new int[n];
        Arrays.fill(seat, -1);
        int sit = 0;
        for (int t : row) {
            for (int s = 0; s < n; s++) {
                int l = seat[(s + n - 1) % n];
                int r = seat[(s + 1) % n];
                if (seat[s] < 0 && (l < 0 || !w.bad(t, l, w.count, false))
                        && (r < 0 || !w.bad(t, r, w.count, false))) {
                    seat[s] = t;
                    sit++;
                    break;
                }
            }
        }
        return what == 0 ? sit : what - 10 < n ? seat[what - 10] : -1;
    }

    int pleasure(int t, int p) {
        needThing(t);
        needPlace(p);
        if (w.who(p) >= 0 && w.who(p) != t) {
            throw new IllegalStateException();
        }
        return w.pleasure(t, p);
    }

    int drift() {
        w.deed();
        return w.drift();
    }

    private List<List<Integer>> storiesOf(int tray) {
        long[] told = trayOf(tray);
        need(told.length >= 1 && told.length <= 4);
        for (long v : told) {
            need(v >= -1);
        }
        List<List<Integer>> all = new ArrayList<>();
        w.stories(told, new ArrayList<>(), w.count, all);
        return all;
    }

    int seen(int tray) {
        return storiesOf(tray).size();
    }

    int sure(int tray, int k) {
        List<List<Integer>> all = storiesOf(tray);
        need(k >= 0 && k < trays[tray].length);
        Set<Integer> whose = new HashSet<>();
        for (List<Integer> story : all) {
            whose.add(story.get(k));
        }
        return whose.size() == 1 ? whose.iterator().next() : -2;
    }

    int tray(int tray, int sort, int many) {
        if (tray < 0 || tray > 3) {
            throw new NoSuchElementException();
        }
        need(sort >= 0 && sort <= 3 && many >= 0 && many <= 30);
        trays[tray] = new long[many];
        sorts[tray] = sort;
        return 0;
    }

    long write(int tray, int place, long v) {
        long[] row = trayOf(tray);
        if (place < 0 || place >= row.length) {
            throw new IndexOutOfBoundsException();
        }
        int drop = 64 - (8 << sorts[tray]);
        row[place] = v << drop >> drop;
        return row[place];
    }

    int pour(int tray) {
        long[] row = trayOf(tray);
        int many = Math.min(row.length, w.n());
        for (int i = 0; i < many; i++) {
            row[i] = w.at[i];
        }
        return many;
    }

    int image(int i) {
        if (i < 0 || i > 2) {
            throw new NoSuchElementException();
        }
        images[i] = w.copy();
        return 0;
    }

    int restore(int i) {
        if (i < 0 || i > 2) {
            throw new NoSuchElementException();
        }
        if (images[i] == null) {
            throw new IllegalStateException();
        }
        w = images[i].copy();
        return 0;
    }

    int count(int what) {
        int[] all = {w.lines, w.places, w.n(), w.touches.size(), w.events.size(), w.time, w.pain,
            w.deeds.size(), tape.length(), w.law == null ? 0 : 1, w.places - w.n()};
        return what >= 0 && what < all.length ? all[what] : -1;
    }

    // ---- the text

    private static final class TextReader {
        private final String text;
        private final List<String> tokens = new ArrayList<>();
        private final List<Integer> places = new ArrayList<>();
        private int next;
        private final World w = new World();

        TextReader(String text) {
            this.text = text;
            int i = 0;
            while (i < text.length()) {
                char c = text.charAt(i);
                int end = i + 1;
                if (c == 10 || c == 32) {
                    i++;
                    continue;
                }
                String sort = "[a-z]";
                boolean run = String.valueOf(c).matches(sort);
                if (!run) {
                    sort = "[0-9]";
                    run = String.valueOf(c).matches(sort);
                }
                while (run && end < text.length() && text.substring(end, end + 1).matches(sort)) {
                    end++;
                }
                String token = text.substring(i, end);
                boolean good = token.matches("[a-z]+|[0-9]{1,3}|[-;+*()\\[\\]=<>]");
                tokens.add(good ? token : "BAD");
                places.add(i);
                i = end;
            }
            tokens.add("END");
            places.add(text.length());
        }

        private Fault fault(int kind) {
            return new Fault(tokens.get(next).equals("BAD") ? 1 : kind, places.get(next));
        }

        private boolean is(String token) {
            return tokens.get(next).equals(token);
        }

        private boolean takes(String token) {
            if (is(token)) {
                next++;
                return true;
            }
            return false;
        }

        private void need(String token) {
            if (!takes(token)) {
                throw fault(2);
            }
        }

        private int number(int least, int most, Set<Integer> not) {
            if (!tokens.get(next).matches("[0-9]+")) {
                throw fault(2);
            }
            int v = Integer.parseInt(tokens.get(next));
            if (v < least || v > most || not.contains(v)) {
                throw fault(3);
            }
            next++;
            return v;
        }

        private int number(int least, int most) {
            return number(least, most, Set.of());
        }

        World read() {
            need("places");
            w.places = number(1, 10);
            need(";");
            w.lines = 1;
            List<Integer> at = new ArrayList<>();
            List<Integer> count = new ArrayList<>();
            while (!is("END")) {
                line(at, count);
                need(";");
                w.lines++;
            }
            w.at = at.stream().mapToInt(v -> v).toArray();
            w.count = count.stream().mapToInt(v -> v).toArray();
            return w;
        }

        private void room(int size, int most) {
            if (size == most) {
                throw fault(4);
            }
            next++;
        }

        private void line(List<Integer> at, List<Integer> count) {
            if (is("touch")) {
                room(w.touches.size(), 20);
                int p = number(0, w.places - 1);
                Set<Integer> not = new HashSet<>();
                not.add(p);
                for (int q = 0; q < w.places; q++) {
                    if (w.touch(p, q) != 0) {
                        not.add(q);
                    }
                }
                int q = number(0, w.places - 1, not);
                w.touches.add(new int[] {p, q, takes("wall") ? 1 : 0});
            } else if (is("thing")) {
                room(w.things.size(), 8);
                at.add(number(0, w.places - 1, new HashSet<>(at)));
                need("count");
                count.add(number(0, 99));
                int kind = takes("kind") ? number(0, 9) : 0;
                int slow = takes("slow") ? number(1, 9) : 1;
                w.things.add(new int[] {kind, slow, takes("stays") ? 1 : 0});
            } else if (is("event")) {
                room(w.events.size(), 6);
                int minute = number(0, 999);
                need("thing");
                int t = number(0, w.n() - 1);
                int sign = takes("less") ? -1 : 1;
                if (sign == 1) {
                    need("more");
                }
                w.events.add(new int[] {minute, t, sign * number(1, 9)});
            } else if (takes("zero")) {
                w.zero = tokens.get(next);
                if (!w.zero.matches("even|odd|both|neither")) {
                    throw fault(2);
                }
                next++;
            } else if (takes("law")) {
                w.law = truth(0);
            } else {
                throw fault(2);
            }
        }

        private void deeper(int depth) {
            if (depth == 6) {
                throw fault(4);
            }
            next++;
        }

        private Truth truth(int depth) {
            Truth left = both(depth);
            while (takes("or")) {
                Truth l = left;
                Truth r = both(depth);
                left = e -> l.of(e) || r.of(e);
            }
            return left;
        }

        private Truth both(int depth) {
            Truth left = unit(depth);
            while (takes("and")) {
                Truth l = left;
                Truth r = unit(depth);
                left = e -> l.of(e) && r.of(e);
            }
            return left;
        }

        private Truth unit(int depth) {
            if (is("not")) {
                deeper(depth);
                Truth of = unit(depth + 1);
                return e -> !of.of(e);
            }
            if (is("[")) {
                deeper(depth);
                Truth of = truth(depth + 1);
                need("]");
                return of;
            }
            Num l = sum(depth);
            String how = tokens.get(next);
            if (!how.matches("[=<>]")) {
                throw fault(2);
            }
            next++;
            Num r = sum(depth);
            return e -> {
                int c = Long.compare(l.of(e), r.of(e));
                return how.equals("=") ? c == 0 : how.equals("<") ? c < 0 : c > 0;
            };
        }

        private static long kept(long v) {
            return Math.max(-1000000, Math.min(1000000, v));
        }

        private Num sum(int depth) {
            Num left = term(depth);
            while (is("+") || is("-")) {
                int sign = is("+") ? 1 : -1;
                next++;
                Num l = left;
                Num r = term(depth);
                left = e -> kept(l.of(e) + sign * r.of(e));
            }
            return left;
        }

        private Num term(int depth) {
            Num left = atom(depth);
            while (takes("*")) {
                Num l = left;
                Num r = atom(depth);
                left = e -> kept(l.of(e) * r.of(e));
            }
            return left;
        }

        private Num atom(int depth) {
            if (is("(")) {
                deeper(depth);
                Num of = sum(depth + 1);
                need(")");
                return of;
            }
            int name = List.of("a", "b", "odda", "oddb", "evena", "evenb", "alike", "wall")
                .indexOf(tokens.get(next));
            if (name >= 0) {
                next++;
                return e -> e[name];
            }
            int v = number(0, 999);
            return e -> v;
        }
    }
}
