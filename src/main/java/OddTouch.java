import java.util.NoSuchElementException;

/**
 * A town of places that touch, of things with counts that lie there, and of a law that says who
 * may touch whom. DOC.md tells what each call promises; its words in capital letters stand here in
 * small ones.
 *
 * <p>All rows are made with the object and used again, so that calls make nothing but exceptions.
 */
public final class OddTouch {

    /** There is none. */
    public static final int NONE = -1;

    private static final int TEXT_MOST = 900;
    private static final int FED_AT_ONCE = 20;
    private static final int PLACES_MOST = 10;
    private static final int TOUCHES_MOST = 20;
    private static final int THINGS_MOST = 8;
    private static final int EVENTS_MOST = 6;
    private static final int COUNT_MOST = 99;
    private static final int DAY_MINUTES = 1000;
    private static final int DAYS_MOST = 9;
    private static final int DEEDS_MOST = 12;
    private static final int TIMES_MOST = 30;
    private static final int TRAYS_MOST = 4;
    private static final int TRAY_PLACES_MOST = 30;
    private static final int IMAGES_MOST = 3;
    private static final int SEATS_MOST = 10;

    private final byte[] tape = new byte[TEXT_MOST];
    private int tapeLength;
    private final Town town = new Town();
    private final Reader reader = new Reader(tape);
    private final Scene now = new Scene(town);
    private final Past past = new Past();
    private final int[] aside = new int[Scene.SIZE];
    private final Image[] images = new Image[IMAGES_MOST];
    private final Tray[] trays = new Tray[TRAYS_MOST];
    private final Placer placer = new Placer(town, now);
    private final Changer changer = new Changer(town, now);
    private final Mover mover = new Mover(town, now);
    private final Table table = new Table(town, now);
    private int drawn;

    public OddTouch() {
        for (int i = 0; i < images.length; i++) {
            images[i] = new Image();
        }
        for (int i = 0; i < trays.length; i++) {
            trays[i] = new Tray();
        }
    }

    // ---- the town

    public int feed(int a, int b, int c, int d, int e) {
        if (tapeLength > TEXT_MOST - FED_AT_ONCE) {
            return NONE;
        }
        layFour(a);
        layFour(b);
        layFour(c);
        layFour(d);
        layFour(e);
        return tapeLength;
    }

    private void layFour(int bytes) {
        for (int shift = 24; shift >= 0 && tapeLength < tape.length; shift -= 8) {
            tape[tapeLength] = (byte) (bytes >>> shift);
            tapeLength++;
        }
    }

    public int town(int n) throws IllegalArgumentException {
        if (n < 0 || n > tapeLength) {
            throw new IllegalArgumentException("the tape has not so many bytes");
        }
        reader.read(n);
        tapeLength = 0;
        if (reader.fault != 0) {
            return -10 - reader.fault;
        }
        town.copyFrom(reader.told);
        now.settleIn();
        past.forget();
        return town.lines;
    }

    public int fault(int what) {
        switch (what) {
            case 0:
                return reader.fault;
            case 1:
                return reader.faultPlace;
            default:
                return NONE;
        }
    }

    public int thing(int t, int what) throws NoSuchElementException, IllegalArgumentException {
        needThing(t);
        switch (what) {
            case 0:
                return now.place[t];
            case 1:
                return now.count[t];
            case 2:
                return town.kind[t];
            case 3:
                return town.slow[t];
            case 4:
                return town.isFixed(t) ? 1 : 0;
            case 5:
                return town.law.isOdd(now.count[t]) ? 1 : 0;
            case 6:
                return town.law.isEven(now.count[t]) ? 1 : 0;
            case 7:
                return now.foesAt(t, now.place[t]);
            default:
                throw new IllegalArgumentException("a thing has no such what");
        }
    }

    public int place(int p, int what) throws NoSuchElementException, IllegalArgumentException {
        needPlace(p);
        switch (what) {
            case 0:
                return now.whoIsAt(p);
            case 1:
                return town.touch[p];
            case 2:
                return town.walls[p];
            default:
                throw new IllegalArgumentException("a place has no such what");
        }
    }

    public int steps(int p, int q) throws NoSuchElementException {
        needPlace(p);
        needPlace(q);
        return town.stepsBetween(p, q);
    }

    public boolean clash(int t, int u, boolean wall)
            throws NoSuchElementException, IllegalArgumentException {
        needThing(t);
        needThing(u);
        if (t == u) {
            throw new IllegalArgumentException("both are one");
        }
        return now.wouldClash(t, u, wall);
    }

    public int clashes() {
        return now.clashCount();
    }

    public int firstClash() {
        return now.firstTwo();
    }

    private void needThing(int t) {
        if (!town.hasThing(t)) {
            throw new NoSuchElementException("no such thing");
        }
    }

    private void needPlace(int p) {
        if (!town.hasPlace(p)) {
            throw new NoSuchElementException("no such place");
        }
    }

    /** For the many calls that know the whats 0 to most alone. */
    private static void needWhat(int what, int most) {
        if (what < 0 || what > most) {
            throw new IllegalArgumentException("no such what");
        }
    }

    /** For calls that know what 0, and 10 and more for the parts of an answer. */
    private static void needWhatOrPart(int what, int parts) {
        if (what != 0 && (what < 10 || what >= 10 + parts)) {
            throw new IllegalArgumentException("no such what");
        }
    }

    // ---- deeds

    public int change(int t, int by) throws NoSuchElementException, IllegalArgumentException {
        needThing(t);
        if (by < -COUNT_MOST || by > COUNT_MOST) {
            throw new IllegalArgumentException("by too much");
        }
        past.keep(now);
        now.addTo(t, by);
        return now.count[t];
    }

    public int why(int t, int p) {
        return now.obstacle(t, p);
    }

    public int move(int t, int p) {
        int obstacle = now.obstacle(t, p);
        if (obstacle != 0) {
            return -obstacle;
        }
        past.keep(now);
        return now.shift(t, p);
    }

    public int days(int n) throws IllegalArgumentException {
        if (n < 1 || n > DAYS_MOST) {
            throw new IllegalArgumentException("not so many days");
        }
        int painBefore = now.pain;
        for (int i = 0; i < n; i++) {
            past.keep(now);
            now.passDay();
        }
        return now.pain - painBefore;
    }

    public int undo(int n) throws IllegalArgumentException {
        if (n < 1 || n > past.many) {
            throw new IllegalArgumentException("not so many deeds");
        }
        past.goBack(now, n);
        return past.many;
    }

    public int judge(int tray, int what)
            throws NoSuchElementException, IllegalStateException, IllegalArgumentException {
        Tray deeds = filledTray(tray);
        needWhat(what, 3);
        int began = now.time;
        now.save(aside, 0);
        int made = carryOut(deeds, false);
        boolean all = made == deeds.many;
        int answer;
        switch (what) {
            case 0:
                answer = all ? NONE : made;
                break;
            case 1:
                answer = all ? 0 : now.obstacleOf(deeds.numberAt(made));
                break;
            case 2:
                answer = now.time - began;
                break;
            default:
                answer = now.clashCount();
                break;
        }
        now.load(aside, 0);
        return answer;
    }

    public int perform(int tray) throws NoSuchElementException, IllegalStateException {
        return carryOut(filledTray(tray), true);
    }

    /** Makes told deeds up to the first that can't be; tells how many it made. */
    private int carryOut(Tray deeds, boolean undoable) {
        for (int i = 0; i < deeds.many; i++) {
            long told = deeds.numberAt(i);
            if (now.obstacleOf(told) != 0) {
                return i;
            }
            if (undoable) {
                past.keep(now);
            }
            if (told == NONE) {
                now.passDay();
            } else {
                now.obey(told);
            }
        }
        return deeds.many;
    }

    public int season(int seed, int times) throws IllegalArgumentException, IllegalStateException {
        if (times < 1 || times > TIMES_MOST) {
            throw new IllegalArgumentException("not so many times");
        }
        if (town.things == 0) {
            throw new IllegalStateException("no things");
        }
        drawn = seed;
        int could = 0;
        for (int i = 0; i < times; i++) {
            if (makeDrawnDeed()) {
                could++;
            }
        }
        return could;
    }

    private boolean makeDrawnDeed() {
        int sort = drawBelow(3);
        if (sort == 0) {
            past.keep(now);
            now.passDay();
            return true;
        }
        int t = drawBelow(town.things);
        if (sort == 1) {
            int by = 1 + drawBelow(9);
            past.keep(now);
            now.addTo(t, by);
            return true;
        }
        int p = drawBelow(town.places);
        if (now.obstacle(t, p) != 0) {
            return false;
        }
        past.keep(now);
        now.shift(t, p);
        return true;
    }

    private int drawBelow(int bound) {
        drawn = 1103515245 * drawn + 12345;
        return bound > 0 ? (drawn >>> 16) % bound : 0;
    }

    // ---- rings, sides

    public int oddRing(int what) throws IllegalArgumentException {
        needWhat(what, 1);
        int ring = town.smallestOddRing();
        return ring == NONE || what == 1 ? ring : Integer.bitCount(ring);
    }

    public int sides() {
        return town.firstSide();
    }

    // ---- placings

    public int placings() {
        return placer.countAll();
    }

    public int placing(int k, int t) throws NoSuchElementException, IllegalArgumentException {
        needThing(t);
        if (k < 0) {
            throw new IllegalArgumentException("no such placing");
        }
        return placer.find(k) ? placer.tried[t] : NONE;
    }

    public int mending(int what) throws IllegalArgumentException {
        if (what != 1) {
            needWhatOrPart(what, town.things);
        }
        if (!placer.findNearest()) {
            return NONE;
        }
        if (what == 0) {
            return placer.nearestMoved;
        }
        return what == 1 ? placer.nearestMinutes : placer.nearest[what - 10];
    }

    public int mend() throws IllegalStateException {
        if (!placer.findNearest()) {
            throw new IllegalStateException("no placing");
        }
        past.keep(now);
        now.lieAs(placer.nearest);
        return placer.nearestMoved;
    }

    public int flips(int what) throws IllegalArgumentException {
        needWhat(what, 1);
        int set = changer.fewestFlips();
        return set == NONE || what == 1 ? set : Integer.bitCount(set);
    }

    // ---- waves, events

    public int wave(int what) throws IllegalArgumentException {
        needWhat(what, 2);
        int began = now.time;
        now.save(aside, 0);
        int moves = mover.runWave();
        int minutes = now.time - began;
        int left = now.clashCount();
        now.load(aside, 0);
        if (what == 0) {
            return moves;
        }
        return what == 1 ? minutes : left;
    }

    public int goWave() {
        past.keep(now);
        return mover.runWave();
    }

    public int calm(int what) throws IllegalArgumentException {
        needWhatOrPart(what, EVENTS_MOST);
        changer.findCalmest();
        if (what == 0) {
            return changer.calmestClashes;
        }
        return what - 10 < town.events ? changer.calmest[what - 10] : NONE;
    }

    public int event(int e, int what) throws NoSuchElementException, IllegalArgumentException {
        if (e < 0 || e >= town.events) {
            throw new NoSuchElementException("no such event");
        }
        switch (what) {
            case 0:
                return town.minute[e];
            case 1:
                return town.subject[e];
            case 2:
                return town.more[e];
            default:
                throw new IllegalArgumentException("an event has no such what");
        }
    }

    // ---- rows, tables

    public int goats(int tray, boolean round)
            throws NoSuchElementException, IllegalStateException, IllegalArgumentException {
        needGuests(filledTray(tray));
        return table.goatsOfGuests(round);
    }

    public int bestRow(int set, boolean round, int what) throws IllegalArgumentException {
        if (set < 0 || set >= 1 << town.things) {
            throw new IllegalArgumentException("a set with others than things");
        }
        needWhatOrPart(what, THINGS_MOST);
        table.lineUp(set, round);
        if (what == 0) {
            return table.bestGoats;
        }
        return what - 10 < table.bestMany ? table.best[what - 10] : NONE;
    }

    public int seats(int tray, int n, int what)
            throws NoSuchElementException, IllegalStateException, IllegalArgumentException {
        needGuests(filledTray(tray));
        if (n < 1 || n > SEATS_MOST) {
            throw new IllegalArgumentException("no table has so many seats");
        }
        needWhatOrPart(what, SEATS_MOST);
        int sitting = table.seatGuests(n);
        if (what == 0) {
            return sitting;
        }
        return what - 10 < n ? table.seat[what - 10] : NONE;
    }

    private void needGuests(Tray tray) {
        if (!table.invite(tray)) {
            throw new IllegalArgumentException("numbers that are no row of things");
        }
    }

    // ---- what each would rather

    public int pleasure(int t, int p) throws NoSuchElementException, IllegalStateException {
        needThing(t);
        needPlace(p);
        int there = now.whoIsAt(p);
        if (there != NONE && there != t) {
            throw new IllegalStateException("another thing lies there");
        }
        return mover.joyAt(t, p);
    }

    public boolean atRest() {
        return mover.allRest();
    }

    public int drift() {
        past.keep(now);
        return mover.runDrift();
    }

    // ---- what flipped

    public int seen(int tray)
            throws NoSuchElementException, IllegalStateException, IllegalArgumentException {
        needSights(filledTray(tray));
        return changer.countStories(0);
    }

    public int sure(int tray, int k)
            throws NoSuchElementException, IllegalStateException, IllegalArgumentException {
        Tray sights = filledTray(tray);
        needSights(sights);
        if (k < 0 || k >= sights.many) {
            throw new IllegalArgumentException("no such step");
        }
        changer.countStories(k);
        return changer.common;
    }

    private void needSights(Tray tray) {
        if (!changer.look(tray)) {
            throw new IllegalArgumentException("numbers that nobody sees");
        }
    }

    // ---- trays, images

    public void tray(int tray, int sort, int many)
            throws NoSuchElementException, IllegalArgumentException {
        needTray(tray);
        if (sort < 0 || sort > 3) {
            throw new IllegalArgumentException("no such sort");
        }
        if (many < 0 || many > TRAY_PLACES_MOST) {
            throw new IllegalArgumentException("not so many");
        }
        trays[tray].lay(sort, many);
    }

    public long write(int tray, int place, long v)
            throws NoSuchElementException, IllegalStateException, IndexOutOfBoundsException {
        Tray into = filledTray(tray);
        if (place < 0 || place >= into.many) {
            throw new IndexOutOfBoundsException("no such place in the tray");
        }
        into.put(place, v);
        return into.numberAt(place);
    }

    public int pour(int tray) throws NoSuchElementException, IllegalStateException {
        Tray into = filledTray(tray);
        int many = Math.min(into.many, town.things);
        for (int t = 0; t < many; t++) {
            into.put(t, now.place[t]);
        }
        return many;
    }

    private void needTray(int tray) {
        if (tray < 0 || tray >= trays.length) {
            throw new NoSuchElementException("no such tray");
        }
    }

    private Tray filledTray(int tray) {
        needTray(tray);
        Tray filled = trays[tray];
        if (filled.many == NONE) {
            throw new IllegalStateException("the tray is missing");
        }
        return filled;
    }

    public void image(int i) throws NoSuchElementException {
        needImage(i);
        images[i].take(town, now, past);
    }

    public void restore(int i) throws NoSuchElementException, IllegalStateException {
        needImage(i);
        if (!images[i].made) {
            throw new IllegalStateException("no image was made");
        }
        images[i].giveBack(town, now, past);
    }

    private void needImage(int i) {
        if (i < 0 || i >= images.length) {
            throw new NoSuchElementException("no such image");
        }
    }

    public int count(int what) {
        switch (what) {
            case 0:
                return town.lines;
            case 1:
                return town.places;
            case 2:
                return town.things;
            case 3:
                return town.touches;
            case 4:
                return town.events;
            case 5:
                return now.time;
            case 6:
                return now.pain;
            case 7:
                return past.many;
            case 8:
                return tapeLength;
            case 9:
                return town.law.isTold() ? 1 : 0;
            case 10:
                return town.places - town.things;
            default:
                return NONE;
        }
    }

    private static int keptWithin(int v, int least, int most) {
        return Math.max(least, Math.min(most, v));
    }

    private static boolean isIn(int set, int member) {
        return (set >> member & 1) != 0;
    }

    /** What nought counts as, and the law of touch as steps over a stack, operands first. */
    private static final class Law {
        static final int NOUGHT_EVEN = 1;
        static final int NOUGHT_ODD = 2;
        static final int NOUGHT_BOTH = 3;
        static final int NOUGHT_NEITHER = 0;

        // Numbers stand in the code as themselves; names and workings are below 0.
        static final int A = -1;
        static final int B = -2;
        static final int ODD_A = -3;
        static final int ODD_B = -4;
        static final int EVEN_A = -5;
        static final int EVEN_B = -6;
        static final int ALIKE = -7;
        static final int WALL = -8;
        static final int NOT = -9;
        static final int PLUS = -10;
        static final int MINUS = -11;
        static final int TIMES = -12;
        static final int EQUAL = -13;
        static final int LESS = -14;
        static final int GREATER = -15;
        static final int AND = -16;
        static final int OR = -17;

        private static final int VALUE_MOST = 1_000_000;
        // Seven levels within one another leave at most five operands waiting each.
        private static final int STACK_MOST = 64;

        private final int[] code = new int[TEXT_MOST];
        private int length;
        int nought = NOUGHT_EVEN;
        private final int[] stack = new int[STACK_MOST];
        private final int[] named = new int[-WALL];

        boolean isTold() {
            return length > 0;
        }

        void strike() {
            length = 0;
        }

        void append(int step) {
            if (length < code.length) {
                code[length] = step;
                length++;
            }
        }

        void copyFrom(Law other) {
            nought = other.nought;
            length = other.length;
            System.arraycopy(other.code, 0, code, 0, other.length);
        }

        boolean isOdd(int count) {
            return count == 0 ? (nought & NOUGHT_ODD) != 0 : count % 2 != 0;
        }

        boolean isEven(int count) {
            return count == 0 ? (nought & NOUGHT_EVEN) != 0 : count % 2 == 0;
        }

        /** Whether two side by side clash; a is the count of the one with the lesser number. */
        boolean forbids(int a, int b, boolean alike, boolean wall) {
            if (!isTold()) {
                return isOdd(a) && isOdd(b);
            }
            name(A, a);
            name(B, b);
            name(ODD_A, isOdd(a) ? 1 : 0);
            name(ODD_B, isOdd(b) ? 1 : 0);
            name(EVEN_A, isEven(a) ? 1 : 0);
            name(EVEN_B, isEven(b) ? 1 : 0);
            name(ALIKE, alike ? 1 : 0);
            name(WALL, wall ? 1 : 0);
            int top = 0;
            for (int i = 0; i < length; i++) {
                int step = code[i];
                if (step >= WALL) {
                    if (top < stack.length) {
                        stack[top] = step >= 0 ? step : named[-1 - step];
                        top++;
                    }
                } else if (step == NOT) {
                    if (top > 0) {
                        stack[top - 1] = 1 - stack[top - 1];
                    }
                } else if (top > 1) {
                    top--;
                    stack[top - 1] = work(step, stack[top - 1], stack[top]);
                }
            }
            return top > 0 && stack[0] == 0;
        }

        private void name(int which, int value) {
            named[-1 - which] = value;
        }

        private static int work(int step, int left, int right) {
            switch (step) {
                case PLUS:
                    return keptWithin(left + right, -VALUE_MOST, VALUE_MOST);
                case MINUS:
                    return keptWithin(left - right, -VALUE_MOST, VALUE_MOST);
                case TIMES:
                    // Two kept values may go beyond an int here, as nowhere else.
                    long product = (long) left * right;
                    return (int) Math.max(-VALUE_MOST, Math.min(VALUE_MOST, product));
                case EQUAL:
                    return left == right ? 1 : 0;
                case LESS:
                    return left < right ? 1 : 0;
                case GREATER:
                    return left > right ? 1 : 0;
                case AND:
                    return left & right;
                default:
                    return left | right;
            }
        }
    }

    /** What the text told: nothing in it changes till the next text. */
    private static final class Town {
        int lines;
        int places;
        int touches;
        int things;
        int events;
        final int[] touch = new int[PLACES_MOST];
        final int[] walls = new int[PLACES_MOST];
        private final int[] step = new int[PLACES_MOST * PLACES_MOST];
        final int[] home = new int[THINGS_MOST];
        final int[] firstCount = new int[THINGS_MOST];
        final int[] kind = new int[THINGS_MOST];
        final int[] slow = new int[THINGS_MOST];
        int fixed;
        final int[] minute = new int[EVENTS_MOST];
        final int[] subject = new int[EVENTS_MOST];
        final int[] more = new int[EVENTS_MOST];
        final int[] byMinute = new int[EVENTS_MOST];
        final Law law = new Law();

        void clear() {
            lines = 0;
            places = 0;
            touches = 0;
            things = 0;
            events = 0;
            fixed = 0;
            law.strike();
            law.nought = Law.NOUGHT_EVEN;
        }

        void copyFrom(Town other) {
            lines = other.lines;
            places = other.places;
            touches = other.touches;
            things = other.things;
            events = other.events;
            fixed = other.fixed;
            copy(other.touch, touch);
            copy(other.walls, walls);
            copy(other.step, step);
            copy(other.home, home);
            copy(other.firstCount, firstCount);
            copy(other.kind, kind);
            copy(other.slow, slow);
            copy(other.minute, minute);
            copy(other.subject, subject);
            copy(other.more, more);
            copy(other.byMinute, byMinute);
            law.copyFrom(other.law);
        }

        private static void copy(int[] from, int[] to) {
            System.arraycopy(from, 0, to, 0, Math.min(from.length, to.length));
        }

        boolean hasThing(int t) {
            return t >= 0 && t < things;
        }

        boolean hasPlace(int p) {
            return p >= 0 && p < places;
        }

        boolean isFixed(int t) {
            return isIn(fixed, t);
        }

        int allPlaces() {
            return (1 << places) - 1;
        }

        void open(int many) {
            places = keptWithin(many, 0, PLACES_MOST);
            for (int p = 0; p < places; p++) {
                touch[p] = 0;
                walls[p] = 0;
            }
        }

        void join(int p, int q, boolean wall) {
            touch[p] |= 1 << q;
            touch[q] |= 1 << p;
            if (wall) {
                walls[p] |= 1 << q;
                walls[q] |= 1 << p;
            }
            touches++;
        }

        int homes() {
            int set = 0;
            for (int t = 0; t < things; t++) {
                set |= 1 << home[t];
            }
            return set;
        }

        /** What needs the whole text: ways between places, and the order of a day. */
        void settle() {
            for (int p = 0; p < places; p++) {
                measureFrom(p);
            }
            for (int e = 0; e < events; e++) {
                int at = e;
                while (at > 0 && minute[byMinute[at - 1]] > minute[e]) {
                    byMinute[at] = byMinute[at - 1];
                    at--;
                }
                byMinute[at] = e;
            }
        }

        private void measureFrom(int p) {
            int row = p * PLACES_MOST;
            for (int q = 0; q < places; q++) {
                step[row + q] = NONE;
            }
            int reached = 0;
            int front = 1 << p;
            for (int far = 0; far < places && front != 0; far++) {
                int next = 0;
                for (int q = 0; q < places; q++) {
                    if (isIn(front, q)) {
                        step[row + q] = far;
                        next |= touch[q];
                    }
                }
                reached |= front;
                front = next & ~reached;
            }
        }

        int stepsBetween(int p, int q) {
            return step[p * PLACES_MOST + q];
        }

        int minutesBetween(int t, int p, int q) {
            return stepsBetween(p, q) * slow[t];
        }

        int smallestOddRing() {
            int ring = NONE;
            int fewest = places + 1;
            for (int set = 1; set < 1 << places; set++) {
                int many = Integer.bitCount(set);
                if (many % 2 == 1 && many < fewest && isRings(set)) {
                    ring = set;
                    fewest = many;
                }
            }
            return ring;
        }

        /**
         * Each touches just two others of the set: it is one ring or several. A touch across an odd
         * ring, or a second ring beside it, leaves a smaller odd one; so the smallest odd set of
         * this kind is one ring, and no smallest ring is missed.
         */
        private boolean isRings(int set) {
            for (int p = 0; p < places; p++) {
                if (isIn(set, p) && Integer.bitCount(touch[p] & set) != 2) {
                    return false;
                }
            }
            return true;
        }

        int firstSide() {
            int first = 0;
            int second = 0;
            for (int p = 0; p < places; p++) {
                if (!isIn(first | second, p)) {
                    for (int q = 0; q < places; q++) {
                        int far = stepsBetween(p, q);
                        if (far != NONE && far % 2 == 0) {
                            first |= 1 << q;
                        } else if (far != NONE) {
                            second |= 1 << q;
                        }
                    }
                }
            }
            return touchesWithin(first) || touchesWithin(second) ? NONE : first;
        }

        boolean touchesWithin(int set) {
            for (int p = 0; p < places; p++) {
                if (isIn(set, p) && (touch[p] & set) != 0) {
                    return true;
                }
            }
            return false;
        }
    }

    /** Reads a text token by token; from the first fault on, nothing is taken any more. */
    private static final class Reader {
        private static final int NO_TOKEN = 1;
        private static final int MISPLACED = 2;
        private static final int OUT_OF_BOUNDS = 3;
        private static final int TOO_MANY = 4;

        private static final int END = 0;
        private static final int WORD = 1;
        private static final int NUMBER = 2;
        private static final int SIGN = 3;
        private static final int BAD = 4;

        private static final String SIGNS = ";+-*()[]=<>";
        private static final int DEPTH_MOST = 6;
        private static final int DIGITS_MOST = 3;

        final Town told = new Town();
        int fault;
        int faultPlace = NONE;
        private final byte[] text;
        private int length;
        private int next;
        private int at;
        private int token;
        private int value;

        Reader(byte[] text) {
            this.text = text;
        }

        void read(int many) {
            length = keptWithin(many, 0, text.length);
            next = 0;
            fault = 0;
            faultPlace = NONE;
            told.clear();
            advance();
            readPlaces();
            for (int i = 0; i < TEXT_MOST && fault == 0 && token != END; i++) {
                readLine();
            }
            if (fault == 0) {
                told.settle();
            }
        }

        // -- tokens

        private void advance() {
            while (next < length && (text[next] == 10 || text[next] == 32)) {
                next++;
            }
            at = next;
            value = 0;
            token = next < length ? sortOf(text[next]) : END;
            if (token == SIGN || token == BAD) {
                value = text[next];
                next++;
            } else if (token != END) {
                int sort = token;
                while (next < length && sortOf(text[next]) == sort) {
                    // Of a word, or of digits that are too many, nobody asks for the value.
                    value = 10 * value + text[next] - '0';
                    next++;
                }
                token = sort == NUMBER && next - at > DIGITS_MOST ? BAD : sort;
            }
        }

        private static int sortOf(byte sign) {
            if (sign >= 'a' && sign <= 'z') {
                return WORD;
            }
            if (sign >= '0' && sign <= '9') {
                return NUMBER;
            }
            return sign > 0 && SIGNS.indexOf((char) sign) >= 0 ? SIGN : BAD;
        }

        private boolean isWord(String word) {
            if (fault != 0 || token != WORD || next - at != word.length()) {
                return false;
            }
            for (int i = 0; i < word.length(); i++) {
                if (text[at + i] != word.charAt(i)) {
                    return false;
                }
            }
            return true;
        }

        private boolean isSign(char sign) {
            return fault == 0 && token == SIGN && value == sign;
        }

        private void fail(int kind) {
            if (fault == 0) {
                fault = kind;
                faultPlace = at;
            }
        }

        private void refuse() {
            fail(token == BAD ? NO_TOKEN : MISPLACED);
        }

        private boolean takeWord(String word) {
            boolean here = isWord(word);
            if (here) {
                advance();
            }
            return here;
        }

        private void needWord(String word) {
            if (isWord(word)) {
                advance();
            } else {
                refuse();
            }
        }

        private boolean takeSign(char sign) {
            boolean here = isSign(sign);
            if (here) {
                advance();
            }
            return here;
        }

        private void needSign(char sign) {
            if (isSign(sign)) {
                advance();
            } else {
                refuse();
            }
        }

        private int takeNumber(int least, int most) {
            return takeNumberBut(least, most, 0);
        }

        /** A number within bounds that is not in a set; NONE with a fault. */
        private int takeNumberBut(int least, int most, int barred) {
            if (fault != 0 || token != NUMBER) {
                refuse();
                return NONE;
            }
            if (value < least || value > most || isIn(barred, value)) {
                fail(OUT_OF_BOUNDS);
                return NONE;
            }
            int taken = value;
            advance();
            return taken;
        }

        // -- lines

        private void readPlaces() {
            needWord("places");
            int many = takeNumber(1, PLACES_MOST);
            told.open(many);
            endLine();
        }

        private void endLine() {
            needSign(';');
            told.lines++;
        }

        private void readLine() {
            if (isWord("touch")) {
                readTouch();
            } else if (isWord("thing")) {
                readThing();
            } else if (isWord("event")) {
                readEvent();
            } else if (takeWord("zero")) {
                readZero();
            } else if (takeWord("law")) {
                told.law.strike();
                readTruth(0);
            } else {
                refuse();
            }
            endLine();
        }

        /** Takes the first token of a line, if one more of its sort may come. */
        private void beginLine(int many, int most) {
            if (many >= most) {
                fail(TOO_MANY);
            } else {
                advance();
            }
        }

        private void readTouch() {
            beginLine(told.touches, TOUCHES_MOST);
            int p = takeNumber(0, told.places - 1);
            int barred = p == NONE ? 0 : told.touch[p] | 1 << p;
            int q = takeNumberBut(0, told.places - 1, barred);
            boolean wall = takeWord("wall");
            if (fault == 0) {
                told.join(p, q, wall);
            }
        }

        private void readThing() {
            beginLine(told.things, THINGS_MOST);
            int home = takeNumberBut(0, told.places - 1, told.homes());
            needWord("count");
            int count = takeNumber(0, COUNT_MOST);
            int kind = takeWord("kind") ? takeNumber(0, 9) : 0;
            int slow = takeWord("slow") ? takeNumber(1, 9) : 1;
            boolean stays = takeWord("stays");
            if (fault == 0) {
                int t = told.things;
                told.home[t] = home;
                told.firstCount[t] = count;
                told.kind[t] = kind;
                told.slow[t] = slow;
                told.fixed |= stays ? 1 << t : 0;
                told.things++;
            }
        }

        private void readEvent() {
            beginLine(told.events, EVENTS_MOST);
            int minute = takeNumber(0, 999);
            needWord("thing");
            int subject = takeNumber(0, told.things - 1);
            boolean less = takeWord("less");
            if (!less) {
                needWord("more");
            }
            int by = takeNumber(1, 9);
            if (fault == 0) {
                int e = told.events;
                told.minute[e] = minute;
                told.subject[e] = subject;
                told.more[e] = less ? -by : by;
                told.events++;
            }
        }

        private void readZero() {
            if (takeWord("even")) {
                told.law.nought = Law.NOUGHT_EVEN;
            } else if (takeWord("odd")) {
                told.law.nought = Law.NOUGHT_ODD;
            } else if (takeWord("both")) {
                told.law.nought = Law.NOUGHT_BOTH;
            } else if (takeWord("neither")) {
                told.law.nought = Law.NOUGHT_NEITHER;
            } else {
                refuse();
            }
        }

        // -- the law; depth: how many of not [ ( are open

        private void readTruth(int depth) {
            readBoth(depth);
            for (int i = 0; i < TEXT_MOST && takeWord("or"); i++) {
                readBoth(depth);
                told.law.append(Law.OR);
            }
        }

        private void readBoth(int depth) {
            readUnit(depth);
            for (int i = 0; i < TEXT_MOST && takeWord("and"); i++) {
                readUnit(depth);
                told.law.append(Law.AND);
            }
        }

        private void readUnit(int depth) {
            if (isWord("not")) {
                if (goDeeper(depth)) {
                    readUnit(depth + 1);
                    told.law.append(Law.NOT);
                }
            } else if (isSign('[')) {
                if (goDeeper(depth)) {
                    readTruth(depth + 1);
                    needSign(']');
                }
            } else {
                readSum(depth);
                int step = comparisonHere();
                if (step == 0) {
                    refuse();
                } else {
                    advance();
                }
                readSum(depth);
                told.law.append(step);
            }
        }

        private boolean goDeeper(int depth) {
            if (depth >= DEPTH_MOST) {
                fail(TOO_MANY);
                return false;
            }
            advance();
            return true;
        }

        private int comparisonHere() {
            if (isSign('=')) {
                return Law.EQUAL;
            } else if (isSign('<')) {
                return Law.LESS;
            }
            return isSign('>') ? Law.GREATER : 0;
        }

        private void readSum(int depth) {
            readTerm(depth);
            for (int i = 0; i < TEXT_MOST && (isSign('+') || isSign('-')); i++) {
                int step = isSign('+') ? Law.PLUS : Law.MINUS;
                advance();
                readTerm(depth);
                told.law.append(step);
            }
        }

        private void readTerm(int depth) {
            readAtom(depth);
            for (int i = 0; i < TEXT_MOST && takeSign('*'); i++) {
                readAtom(depth);
                told.law.append(Law.TIMES);
            }
        }

        private void readAtom(int depth) {
            int name = nameHere();
            if (isSign('(')) {
                if (goDeeper(depth)) {
                    readSum(depth + 1);
                    needSign(')');
                }
            } else if (name != 0) {
                told.law.append(name);
                advance();
            } else if (fault == 0 && token == NUMBER) {
                told.law.append(value);
                advance();
            } else {
                refuse();
            }
        }

        private int nameHere() {
            if (isWord("a")) {
                return Law.A;
            } else if (isWord("b")) {
                return Law.B;
            } else if (isWord("odda")) {
                return Law.ODD_A;
            } else if (isWord("oddb")) {
                return Law.ODD_B;
            } else if (isWord("evena")) {
                return Law.EVEN_A;
            } else if (isWord("evenb")) {
                return Law.EVEN_B;
            } else if (isWord("alike")) {
                return Law.ALIKE;
            } else if (isWord("wall")) {
                return Law.WALL;
            }
            return 0;
        }
    }

    /** Where things lie and what they count now. */
    private static final class Scene {
        static final int SIZE = 4 * THINGS_MOST + 2;

        private static final int NO_SUCH = 1;
        private static final int STAYS = 2;
        private static final int NOT_EMPTY = 3;
        private static final int NO_WAY = 4;

        private static final int TOLD_MORE = 100;
        private static final int TOLD_LESS = 200;
        private static final int TOLD_MOST = 299;

        private final Town town;
        final int[] place = new int[THINGS_MOST];
        final int[] count = new int[THINGS_MOST];
        // With whom each would clash, as bits: kept beside the counts, as the law is dear to ask.
        final int[] openFoes = new int[THINGS_MOST];
        final int[] wallFoes = new int[THINGS_MOST];
        int time;
        int pain;

        Scene(Town town) {
            this.town = town;
        }

        void settleIn() {
            for (int t = 0; t < town.things; t++) {
                place[t] = town.home[t];
                count[t] = town.firstCount[t];
                openFoes[t] = 0;
                wallFoes[t] = 0;
            }
            for (int t = 0; t < town.things; t++) {
                askLawFor(t);
            }
            time = 0;
            pain = 0;
        }

        void save(int[] row, int at) {
            if (at < 0 || at > row.length - SIZE) {
                return;
            }
            System.arraycopy(place, 0, row, at, THINGS_MOST);
            System.arraycopy(count, 0, row, at + THINGS_MOST, THINGS_MOST);
            System.arraycopy(openFoes, 0, row, at + 2 * THINGS_MOST, THINGS_MOST);
            System.arraycopy(wallFoes, 0, row, at + 3 * THINGS_MOST, THINGS_MOST);
            row[at + SIZE - 2] = time;
            row[at + SIZE - 1] = pain;
        }

        void load(int[] row, int at) {
            if (at < 0 || at > row.length - SIZE) {
                return;
            }
            System.arraycopy(row, at, place, 0, THINGS_MOST);
            System.arraycopy(row, at + THINGS_MOST, count, 0, THINGS_MOST);
            System.arraycopy(row, at + 2 * THINGS_MOST, openFoes, 0, THINGS_MOST);
            System.arraycopy(row, at + 3 * THINGS_MOST, wallFoes, 0, THINGS_MOST);
            time = row[at + SIZE - 2];
            pain = row[at + SIZE - 1];
        }

        void lieAs(int[] places) {
            System.arraycopy(places, 0, place, 0, Math.min(places.length, town.things));
        }

        // -- who clashes

        private void askLawFor(int t) {
            for (int u = 0; u < town.things; u++) {
                if (u != t) {
                    int a = Math.min(t, u);
                    int b = Math.max(t, u);
                    boolean alike = town.kind[a] == town.kind[b];
                    mark(openFoes, a, b, town.law.forbids(count[a], count[b], alike, false));
                    mark(wallFoes, a, b, town.law.forbids(count[a], count[b], alike, true));
                }
            }
        }

        private static void mark(int[] foes, int a, int b, boolean on) {
            foes[a] = on ? foes[a] | 1 << b : foes[a] & ~(1 << b);
            foes[b] = on ? foes[b] | 1 << a : foes[b] & ~(1 << a);
        }

        boolean wouldClash(int t, int u, boolean wall) {
            return isIn(wall ? wallFoes[t] : openFoes[t], u);
        }

        int whoIsAt(int p) {
            for (int t = 0; t < town.things; t++) {
                if (place[t] == p) {
                    return t;
                }
            }
            return NONE;
        }

        /** Things that t would touch, as bits, if it lay at p. */
        int neighboursAt(int t, int p) {
            int set = 0;
            for (int u = 0; u < town.things; u++) {
                if (u != t && isIn(town.touch[p], place[u])) {
                    set |= 1 << u;
                }
            }
            return set;
        }

        /** Things that t would clash with, as bits, if it lay at p. */
        int foesAt(int t, int p) {
            int set = 0;
            for (int u = 0; u < town.things; u++) {
                if (u != t && isIn(town.touch[p], place[u])) {
                    int foes = isIn(town.walls[p], place[u]) ? wallFoes[t] : openFoes[t];
                    set |= foes & 1 << u;
                }
            }
            return set;
        }

        int clashCount() {
            int ends = 0;
            for (int t = 0; t < town.things; t++) {
                ends += Integer.bitCount(foesAt(t, place[t]));
            }
            return ends / 2;
        }

        /** The first two that clash: 10 times the lesser, and the other. */
        int firstTwo() {
            for (int t = 0; t < town.things; t++) {
                int later = foesAt(t, place[t]) >> t << t;
                if (later != 0) {
                    return 10 * t + Integer.numberOfTrailingZeros(later);
                }
            }
            return NONE;
        }

        // -- deeds

        int obstacle(int t, int p) {
            if (!town.hasThing(t) || !town.hasPlace(p)) {
                return NO_SUCH;
            }
            if (town.isFixed(t)) {
                return STAYS;
            }
            if (whoIsAt(p) != NONE) {
                return NOT_EMPTY;
            }
            return town.stepsBetween(place[t], p) == NONE ? NO_WAY : 0;
        }

        int minutesTo(int t, int p) {
            return town.minutesBetween(t, place[t], p);
        }

        private void passTime(int minutes) {
            pain += minutes * clashCount();
            time += minutes;
        }

        int shift(int t, int p) {
            int minutes = minutesTo(t, p);
            passTime(minutes);
            place[t] = p;
            return minutes;
        }

        void addTo(int t, int by) {
            count[t] = keptWithin(count[t] + by, 0, COUNT_MOST);
            askLawFor(t);
        }

        void passDay() {
            int minute = 0;
            for (int k = 0; k < town.events; k++) {
                int e = town.byMinute[k];
                passTime(town.minute[e] - minute);
                minute = town.minute[e];
                addTo(town.subject[e], town.more[e]);
            }
            passTime(DAY_MINUTES - minute);
        }

        int obstacleOf(long told) {
            if (told == NONE) {
                return 0;
            }
            if (told < 0 || told > TOLD_MOST) {
                return NO_SUCH;
            }
            int t = (int) told / 10 % 10;
            int last = (int) told % 10;
            if (told < TOLD_MORE) {
                return obstacle(t, last);
            }
            return town.hasThing(t) && last != 0 ? 0 : NO_SUCH;
        }

        /** Makes a told move or change that has no obstacle. */
        void obey(long told) {
            int t = (int) told / 10 % 10;
            int last = (int) told % 10;
            if (told < TOLD_MORE) {
                shift(t, last);
            } else {
                addTo(t, told < TOLD_LESS ? last : -last);
            }
        }
    }

    /** Scenes as they were ahead of the latest deeds, in a row that goes round. */
    private static final class Past {
        int many;
        private int newest;
        private final int[] scenes = new int[DEEDS_MOST * Scene.SIZE];

        void forget() {
            many = 0;
        }

        void keep(Scene scene) {
            newest = (newest + 1) % DEEDS_MOST;
            scene.save(scenes, newest * Scene.SIZE);
            many = Math.min(many + 1, DEEDS_MOST);
        }

        /** Undoes so many of those that are kept. */
        void goBack(Scene scene, int deeds) {
            int eldest = Math.floorMod(newest - deeds + 1, DEEDS_MOST);
            scene.load(scenes, eldest * Scene.SIZE);
            newest = Math.floorMod(newest - deeds, DEEDS_MOST);
            many -= deeds;
        }

        void copyFrom(Past other) {
            many = other.many;
            newest = other.newest;
            System.arraycopy(other.scenes, 0, scenes, 0, scenes.length);
        }
    }

    /** All but the tape, the fault and the trays, as it was. */
    private static final class Image {
        boolean made;
        private final Town town = new Town();
        private final int[] scene = new int[Scene.SIZE];
        private final Past past = new Past();

        void take(Town fromTown, Scene fromScene, Past fromPast) {
            made = true;
            town.copyFrom(fromTown);
            fromScene.save(scene, 0);
            past.copyFrom(fromPast);
        }

        void giveBack(Town toTown, Scene toScene, Past toPast) {
            toTown.copyFrom(town);
            toScene.load(scene, 0);
            toPast.copyFrom(past);
        }
    }

    /** A row of numbers of one width. */
    private static final class Tray {
        int many = NONE;
        private int sort;
        private final long[] numbers = new long[TRAY_PLACES_MOST];

        void lay(int newSort, int newMany) {
            sort = newSort;
            many = keptWithin(newMany, 0, numbers.length);
            for (int i = 0; i < many; i++) {
                numbers[i] = 0;
            }
        }

        long numberAt(int i) {
            return i >= 0 && i < many ? numbers[i] : 0;
        }

        void put(int i, long v) {
            if (i >= 0 && i < many) {
                numbers[i] = cut(v);
            }
        }

        private long cut(long v) {
            switch (sort) {
                case 0:
                    return (byte) v;
                case 1:
                    return (short) v;
                case 2:
                    return (int) v;
                default:
                    return v;
            }
        }
    }

    /** Placings without a clash: how many, the k-th, the nearest one. */
    private static final class Placer {
        private static final int MANY = 1_000_000;

        private final Town town;
        private final Scene now;
        // Row t: the places that each thing may still take when the things ahead of t lie.
        private final int[] may = new int[(THINGS_MOST + 1) * THINGS_MOST];
        // Things that lie wherever there is room: counted at once, not one placing at a time.
        private int easy;
        private int lastFussy;
        final int[] tried = new int[THINGS_MOST];
        final int[] nearest = new int[THINGS_MOST];
        int nearestMoved;
        int nearestMinutes;

        Placer(Town town, Scene now) {
            this.town = town;
            this.now = now;
        }

        int countAll() {
            return clearBoard() ? waysFrom(0) : 0;
        }

        /** Whether there is a k-th one; its places are in tried. */
        boolean find(int k) {
            boolean found = clearBoard();
            int ahead = k;
            for (int t = 0; t < town.things && found; t++) {
                found = false;
                for (int p = 0; p < town.places && !found; p++) {
                    if (isIn(may[t * THINGS_MOST + t], p) && lay(t, p)) {
                        int ways = waysFrom(t + 1);
                        found = ahead < ways;
                        ahead -= found ? 0 : ways;
                    }
                }
            }
            return found;
        }

        /** Whether there is one by ways that there are; its places are in nearest. */
        boolean findNearest() {
            boolean any = clearBoard();
            nearestMinutes = MANY;
            for (int most = 0; most <= town.things && any; most++) {
                seek(0, most, 0);
                if (nearestMinutes != MANY) {
                    nearestMoved = most;
                    return true;
                }
            }
            return false;
        }

        /** Bars what those that stay bar; false: somebody is left without a place. */
        private boolean clearBoard() {
            easy = 0;
            lastFussy = NONE;
            boolean room = true;
            for (int t = 0; t < town.things; t++) {
                may[t] = town.isFixed(t) ? 1 << now.place[t] : town.allPlaces();
                for (int u = 0; u < town.things; u++) {
                    may[t] &= u != t && town.isFixed(u) ? ~barredBy(u, now.place[u], t) : -1;
                }
                room &= may[t] != 0;
                if (town.isFixed(t) || mayClashSomewhere(t)) {
                    lastFussy = t;
                } else {
                    easy |= 1 << t;
                }
            }
            return room;
        }

        private boolean mayClashSomewhere(int t) {
            for (int p = 0; p < town.places; p++) {
                if (now.wallFoes[t] != 0 && town.walls[p] != 0
                        || now.openFoes[t] != 0 && town.walls[p] != town.touch[p]) {
                    return true;
                }
            }
            return false;
        }

        /** Places that u can't take while t lies at p. */
        private int barredBy(int t, int p, int u) {
            int barred = 1 << p;
            barred |= now.wouldClash(t, u, false) ? town.touch[p] & ~town.walls[p] : 0;
            barred |= now.wouldClash(t, u, true) ? town.walls[p] : 0;
            return barred;
        }

        /** Lays t at p; false: a later thing is left without a place. */
        private boolean lay(int t, int p) {
            tried[t] = p;
            for (int u = t + 1; u < town.things; u++) {
                int left = may[t * THINGS_MOST + u] & ~barredBy(t, p, u);
                if (left == 0) {
                    return false;
                }
                may[(t + 1) * THINGS_MOST + u] = left;
            }
            return true;
        }

        private int waysFrom(int t) {
            int easyLeft = Integer.bitCount(easy >> t);
            return fussyWays(t) * orders(town.places - town.things + easyLeft, easyLeft);
        }

        /** How many ways so many things have to lie at so many places. */
        private static int orders(int places, int things) {
            int ways = 1;
            for (int i = 0; i < things; i++) {
                ways *= places - i;
            }
            return ways;
        }

        private int fussyWays(int t) {
            if (t > lastFussy || t >= town.things) {
                return 1;
            }
            int mine = may[t * THINGS_MOST + t];
            if (t == lastFussy) {
                return Integer.bitCount(mine);
            }
            int quiet = quietPlaces(t);
            if (quiet != NONE) {
                int fussyLeft = town.things - t - Integer.bitCount(easy >> t);
                return orders(Integer.bitCount(quiet), fussyLeft);
            }
            if (isIn(easy, t)) {
                skip(t);
                return fussyWays(t + 1);
            }
            int ways = 0;
            for (int p = 0; p < town.places; p++) {
                if (isIn(mine, p) && lay(t, p)) {
                    ways += fussyWays(t + 1);
                }
            }
            return ways;
        }

        /** Places that all fussy ones from t on may take alike, no two touching; NONE: not so. */
        private int quietPlaces(int t) {
            int quiet = NONE;
            for (int u = t; u < town.things; u++) {
                int mine = may[t * THINGS_MOST + u];
                if (!isIn(easy, u) && quiet != NONE && mine != quiet) {
                    return NONE;
                }
                quiet = isIn(easy, u) ? quiet : mine;
            }
            return quiet == NONE || town.touchesWithin(quiet) ? NONE : quiet;
        }

        private void skip(int t) {
            for (int u = t + 1; u < town.things; u++) {
                may[(t + 1) * THINGS_MOST + u] = may[t * THINGS_MOST + u];
            }
        }

        /** How many from t on can't lie where they are now. */
        private int driven(int t) {
            int many = 0;
            for (int u = t; u < town.things; u++) {
                many += isIn(may[t * THINGS_MOST + u], now.place[u]) ? 0 : 1;
            }
            return many;
        }

        private void seek(int t, int spare, int minutes) {
            if (minutes >= nearestMinutes || driven(t) > spare) {
                return;
            }
            if (t >= town.things) {
                nearestMinutes = minutes;
                System.arraycopy(tried, 0, nearest, 0, THINGS_MOST);
                return;
            }
            int here = now.place[t];
            int mine = may[t * THINGS_MOST + t];
            if (spare == 0) {
                mine &= 1 << here;
            }
            for (int p = 0; p < town.places; p++) {
                if (isIn(mine, p) && town.stepsBetween(here, p) != NONE && lay(t, p)) {
                    seek(t + 1, p == here ? spare : spare - 1, minutes + now.minutesTo(t, p));
                }
            }
        }
    }

    /** What comes of counts that change while all lie where they are. */
    private static final class Changer {
        private static final int UNLIKE = -2;
        private static final int SIGHTS_MOST = 4;
        private static final int TURNS = SIGHTS_MOST + 1;
        private static final int MANY = 1_000_000;

        private final Town town;
        private final Scene now;
        // For two that touch, as bits: whether they clash behind so many flips of each.
        private final int[] foul = new int[THINGS_MOST * THINGS_MOST];
        private final int[] turned = new int[THINGS_MOST];
        private final long[] sights = new long[SIGHTS_MOST];
        private int steps;
        private final int[] story = new int[SIGHTS_MOST];
        private int stories;
        int common;
        private final int[] counts = new int[THINGS_MOST];
        private final int[] order = new int[EVENTS_MOST];
        final int[] calmest = new int[EVENTS_MOST];
        int calmestClashes;

        Changer(Town town, Scene now) {
            this.town = town;
            this.now = now;
        }

        private boolean touchEachOther(int t, int u) {
            return isIn(town.touch[now.place[t]], now.place[u]);
        }

        /** Whether two that touch clash with these counts; t is the lesser number. */
        private boolean rub(int t, int u, int a, int b) {
            boolean wall = isIn(town.walls[now.place[t]], now.place[u]);
            return town.law.forbids(a, b, town.kind[t] == town.kind[u], wall);
        }

        // -- flips

        private static int flipped(int count, int times) {
            int c = count;
            for (int i = 0; i < times; i++) {
                c = c == COUNT_MOST ? c - 1 : c + 1;
            }
            return c;
        }

        private void foresee(int flipsMost) {
            for (int t = 0; t < town.things; t++) {
                turned[t] = 0;
                for (int u = t + 1; u < town.things; u++) {
                    foul[t * THINGS_MOST + u] = touchEachOther(t, u) ? foulOf(t, u, flipsMost) : 0;
                }
            }
        }

        private int foulOf(int t, int u, int flipsMost) {
            int bits = 0;
            for (int i = 0; i <= flipsMost; i++) {
                int a = flipped(now.count[t], i);
                for (int k = 0; k <= flipsMost; k++) {
                    if (rub(t, u, a, flipped(now.count[u], k))) {
                        bits |= 1 << i * TURNS + k;
                    }
                }
            }
            return bits;
        }

        private int turnedClashes() {
            int many = 0;
            for (int t = 0; t < town.things; t++) {
                for (int u = t + 1; u < town.things; u++) {
                    many += foul[t * THINGS_MOST + u] >> turned[t] * TURNS + turned[u] & 1;
                }
            }
            return many;
        }

        int fewestFlips() {
            foresee(1);
            int best = NONE;
            int fewest = town.things + 1;
            for (int set = 0; set < 1 << town.things; set++) {
                if (Integer.bitCount(set) < fewest && isQuiet(set)) {
                    best = set;
                    fewest = Integer.bitCount(set);
                }
            }
            return best;
        }

        private boolean isQuiet(int set) {
            for (int t = 0; t < town.things; t++) {
                turned[t] = set >> t & 1;
            }
            return turnedClashes() == 0;
        }

        // -- what was seen

        /** Takes the sights of a tray; false: numbers that are none such. */
        boolean look(Tray tray) {
            if (tray.many < 1 || tray.many > SIGHTS_MOST) {
                return false;
            }
            for (int i = 0; i < tray.many; i++) {
                if (tray.numberAt(i) < NONE) {
                    return false;
                }
                sights[i] = tray.numberAt(i);
            }
            steps = tray.many;
            return true;
        }

        /** Counts the stories that fit the sights; common tells whose step k is in all of them. */
        int countStories(int k) {
            foresee(steps);
            stories = 0;
            common = UNLIKE;
            follow(0, k);
            return stories;
        }

        private void follow(int step, int watched) {
            if (step >= steps || step >= SIGHTS_MOST) {
                noteStory(watched);
                return;
            }
            for (int t = NONE; t < town.things; t++) {
                story[step] = t;
                turn(t, 1);
                if (sights[step] == NONE || sights[step] == turnedClashes()) {
                    follow(step + 1, watched);
                }
                turn(t, -1);
            }
        }

        private void turn(int t, int by) {
            if (t != NONE) {
                turned[t] += by;
            }
        }

        private void noteStory(int watched) {
            stories++;
            if (stories == 1) {
                common = story[watched];
            } else if (common != story[watched]) {
                common = UNLIKE;
            }
        }

        // -- calm orders

        void findCalmest() {
            System.arraycopy(now.count, 0, counts, 0, THINGS_MOST);
            calmestClashes = MANY;
            arrange(0, 0, now.clashCount(), 0);
        }

        private void arrange(int k, int used, int clashes, int sum) {
            if (sum >= calmestClashes) {
                return;
            }
            if (k >= town.events) {
                calmestClashes = sum;
                System.arraycopy(order, 0, calmest, 0, EVENTS_MOST);
                return;
            }
            for (int e = 0; e < town.events; e++) {
                if (!isIn(used, e)) {
                    int t = town.subject[e];
                    int was = counts[t];
                    int others = clashes - rubsOf(t);
                    counts[t] = keptWithin(was + town.more[e], 0, COUNT_MOST);
                    int then = others + rubsOf(t);
                    order[k] = e;
                    arrange(k + 1, used | 1 << e, then, sum + then);
                    counts[t] = was;
                }
            }
        }

        private int rubsOf(int t) {
            int many = 0;
            for (int u = 0; u < town.things; u++) {
                if (u != t && touchEachOther(t, u)) {
                    int a = Math.min(t, u);
                    int b = Math.max(t, u);
                    many += rub(a, b, counts[a], counts[b]) ? 1 : 0;
                }
            }
            return many;
        }
    }

    /** Moves that come by themselves: waves of forced ones, drifts to where one would rather be. */
    private static final class Mover {
        private static final int WAVE_MOST = 50;
        private static final int ROUNDS_MOST = 20;

        private final Town town;
        private final Scene now;

        Mover(Town town, Scene now) {
            this.town = town;
            this.now = now;
        }

        /** Tells how many moves. */
        int runWave() {
            for (int moves = 0; moves < WAVE_MOST; moves++) {
                int two = now.firstTwo();
                if (two == NONE || !oneGivesWay(two / 10, two % 10)) {
                    return moves;
                }
            }
            return WAVE_MOST;
        }

        private boolean oneGivesWay(int t, int u) {
            int p = refugeOf(t);
            int q = refugeOf(u);
            if (p == NONE && q == NONE) {
                return false;
            }
            if (q == NONE || p != NONE && lesserGoes(t, p, u, q)) {
                now.shift(t, p);
            } else {
                now.shift(u, q);
            }
            return true;
        }

        private boolean lesserGoes(int t, int p, int u, int q) {
            int mine = now.minutesTo(t, p);
            int other = now.minutesTo(u, q);
            if (mine != other) {
                return mine < other;
            }
            return town.law.isEven(now.count[t]) && !town.law.isEven(now.count[u]);
        }

        private int refugeOf(int t) {
            int refuge = NONE;
            for (int p = 0; p < town.places; p++) {
                if (now.obstacle(t, p) == 0 && now.foesAt(t, p) == 0
                        && (refuge == NONE || now.minutesTo(t, p) < now.minutesTo(t, refuge))) {
                    refuge = p;
                }
            }
            return refuge;
        }

        int joyAt(int t, int p) {
            return 2 * Integer.bitCount(now.neighboursAt(t, p))
                    - 5 * Integer.bitCount(now.foesAt(t, p));
        }

        /** Where t would rather be; NONE: nowhere. */
        private int favouriteOf(int t) {
            int favourite = NONE;
            int most = joyAt(t, now.place[t]);
            for (int p = 0; p < town.places; p++) {
                if (now.obstacle(t, p) == 0 && joyAt(t, p) > most) {
                    favourite = p;
                    most = joyAt(t, p);
                }
            }
            return favourite;
        }

        boolean allRest() {
            for (int t = 0; t < town.things; t++) {
                if (favouriteOf(t) != NONE) {
                    return false;
                }
            }
            return true;
        }

        /** Tells how many moves. */
        int runDrift() {
            int moves = 0;
            for (int round = 0; round < ROUNDS_MOST; round++) {
                int before = moves;
                for (int t = 0; t < town.things; t++) {
                    int p = favouriteOf(t);
                    if (p != NONE) {
                        now.place[t] = p;
                        moves++;
                    }
                }
                if (moves == before) {
                    return moves;
                }
            }
            return moves;
        }
    }

    /** Rows and round tables, where no walls are. */
    private static final class Table {
        private static final int GUESTS_MOST = 10;

        private final Town town;
        private final Scene now;
        private final int[] guest = new int[GUESTS_MOST];
        private int guests;
        final int[] seat = new int[SEATS_MOST];
        // For a set of things still to come and the latest one: the fewest goats from there on.
        private final int[] fewest = new int[(1 << THINGS_MOST) * THINGS_MOST];
        final int[] best = new int[THINGS_MOST];
        int bestMany;
        int bestGoats;

        Table(Town town, Scene now) {
            this.town = town;
            this.now = now;
        }

        /** Takes the things of a tray as guests; false: numbers that are none such. */
        boolean invite(Tray tray) {
            if (tray.many < 1 || tray.many > GUESTS_MOST) {
                return false;
            }
            int come = 0;
            for (int i = 0; i < tray.many; i++) {
                long number = tray.numberAt(i);
                if (number < 0 || number >= town.things || isIn(come, (int) number)) {
                    return false;
                }
                come |= 1 << (int) number;
                guest[i] = (int) number;
            }
            guests = tray.many;
            return true;
        }

        private int goatBetween(int t, int u) {
            return now.wouldClash(t, u, false) ? 1 : 0;
        }

        int goatsOfGuests(boolean round) {
            int goats = 0;
            for (int i = 1; i < guests; i++) {
                goats += goatBetween(guest[i - 1], guest[i]);
            }
            if (round && guests > 2) {
                goats += goatBetween(guest[guests - 1], guest[0]);
            }
            return goats;
        }

        /** Tells how many sit. */
        int seatGuests(int seats) {
            for (int s = 0; s < seats; s++) {
                seat[s] = NONE;
            }
            int sitting = 0;
            for (int i = 0; i < guests; i++) {
                int s = firstQuietSeat(guest[i], seats);
                if (s != NONE) {
                    seat[s] = guest[i];
                    sitting++;
                }
            }
            return sitting;
        }

        private int firstQuietSeat(int t, int seats) {
            for (int s = 0; s < seats; s++) {
                int left = s == 0 ? seats - 1 : s - 1;
                int right = s == seats - 1 ? 0 : s + 1;
                if (seat[s] == NONE && isQuietBeside(t, left) && isQuietBeside(t, right)) {
                    return s;
                }
            }
            return NONE;
        }

        private boolean isQuietBeside(int t, int s) {
            return seat[s] == NONE || !now.wouldClash(t, seat[s], false);
        }

        /** Finds the best row of a set. */
        void lineUp(int set, boolean round) {
            bestMany = Integer.bitCount(set);
            bestGoats = 0;
            int least = Integer.numberOfTrailingZeros(set);
            // A round can be turned till its least number leads: the first of the best does so.
            int leader = round && bestMany > 2 ? least : NONE;
            for (int rest = 0; rest < set; rest++) {
                if ((rest & ~set) == 0) {
                    weigh(set, rest, leader);
                }
            }
            int rest = set;
            int last = NONE;
            for (int k = 0; k < bestMany; k++) {
                int next = k == 0 && leader != NONE ? leader : bestNext(rest, last);
                bestGoats += last == NONE ? 0 : goatBetween(last, next);
                best[k] = next;
                rest &= ~(1 << next);
                last = next;
            }
            if (leader != NONE) {
                bestGoats += goatBetween(last, leader);
            }
        }

        private void weigh(int set, int rest, int leader) {
            for (int last = 0; last < town.things; last++) {
                if (isIn(set & ~rest, last)) {
                    int goats = leader == NONE || leader == last ? 0 : goatBetween(last, leader);
                    if (rest != 0) {
                        goats = goatsBy(rest, last, bestNext(rest, last));
                    }
                    fewest[rest * THINGS_MOST + last] = goats;
                }
            }
        }

        private int goatsBy(int rest, int last, int next) {
            int then = fewest[(rest & ~(1 << next)) * THINGS_MOST + next];
            return then + (last == NONE ? 0 : goatBetween(last, next));
        }

        /** Of a set that is not empty, the least number by which the goats are fewest. */
        private int bestNext(int rest, int last) {
            int next = Integer.numberOfTrailingZeros(rest);
            for (int t = next + 1; t < town.things; t++) {
                if (isIn(rest, t) && goatsBy(rest, last, t) < goatsBy(rest, last, next)) {
                    next = t;
                }
            }
            return next;
        }
    }
}
