import java.util.NoSuchElementException;

/** A bench for a cut through ground; ../shared/DOC.md tells its promises and the words in capitals. */
public final class SlipBench {
    public static final int NONE = -1;

    private static final int NO_ORDER = -2;
    private static final int MIN_COLUMNS = 2;
    private static final int MAX_COLUMNS = 12;
    private static final int MAX_LEVEL = 24;
    private static final int LEVELS = MAX_LEVEL + 1;
    private static final int MAX_AMOUNT = 999;
    private static final int MAX_EARTHS = 6;
    private static final int MAX_WEIGHT = 30;
    private static final int MAX_HOLD = 99;
    private static final int MAX_RUB = 9;
    private static final int MAX_ACTS = 6;
    private static final int MAX_TERM = 1000;
    /** The ends of a LINE in a COLUMN differ by 0 .. 4. */
    private static final int DROPS = 5;

    private static final int WATER = 0;
    private static final int LOAD = 1;
    private static final int NAILS = 2;
    private static final int HEIGHT = 3;

    private static final int DIG = 0;
    private static final int NAIL = 1;
    private static final int DRAIN = 2;
    private static final int BURDEN = 3;

    private final Earths earths;
    private final Ground ground;
    private final Ground trial;
    private final Acts acts;
    private final Search search;
    private final Line begun;
    private final Line worstLine;
    private final Fraction worstShare;
    private final Fraction begunShare;
    private final boolean[] dead;
    private final int[] tried;
    private final int[] steps;
    private int stepCount;
    private boolean worstKnown;
    private boolean worstExists;

    public SlipBench() {
        earths = new Earths();
        ground = new Ground(earths);
        trial = new Ground(ground);
        acts = new Acts();
        search = new Search(ground);
        begun = new Line();
        worstLine = new Line();
        worstShare = new Fraction();
        begunShare = new Fraction();
        dead = new boolean[1 << MAX_ACTS];
        tried = new int[MAX_ACTS];
        steps = new int[MAX_ACTS];
        stepCount = 0;
        worstKnown = false;
        worstExists = false;
    }

    public boolean ground(int w) {
        if (w < MIN_COLUMNS || w > MAX_COLUMNS) {
            return false;
        }
        ground.clearTo(w);
        acts.size = 0;
        begun.drop();
        worstKnown = false;
        return true;
    }

    public int earth(int weight, int hold, int rub, boolean rock) {
        if (!within(weight, 1, MAX_WEIGHT)) {
            return NONE;
        }
        // Of ROCK neither HOLD nor RUB is looked at, so any will do there.
        if (!rock && !(within(hold, 0, MAX_HOLD) && within(rub, 0, MAX_RUB))) {
            return NONE;
        }
        return earths.add(weight, hold, rub, rock);
    }

    public int lay(int column, int earth, int n) {
        if (!ground.has(column) || !earths.has(earth)) {
            return NONE;
        }
        Column c = ground.columns[column];
        if (!within(n, 1, MAX_LEVEL - c.tall)) {
            return NONE;
        }
        c.pile(earth, n);
        worstKnown = false;
        return c.tall;
    }

    public boolean set(int column, int what, int v) {
        if (!ground.has(column) || !within(what, WATER, NAILS)) {
            return false;
        }
        if (!within(v, 0, what == WATER ? MAX_LEVEL : MAX_AMOUNT)) {
            return false;
        }
        ground.columns[column].put(what, v);
        worstKnown = false;
        return true;
    }

    public int look(int column, int what) throws IndexOutOfBoundsException, NoSuchElementException {
        if (!ground.has(column)) {
            throw new IndexOutOfBoundsException("no such column");
        }
        if (!within(what, WATER, HEIGHT)) {
            throw new NoSuchElementException("no such what");
        }
        Column c = ground.columns[column];
        switch (what) {
            case WATER:
                return c.water;
            case LOAD:
                return c.load;
            case NAILS:
                return c.nails;
            default:
                return c.tall;
        }
    }

    public int cell(int column, int y) {
        if (!ground.has(column)) {
            return NONE;
        }
        Column c = ground.columns[column];
        return within(y, 0, c.tall - 1) ? c.cells[y] : NONE;
    }

    public boolean begin(int a, int y) {
        if (!ground.has(a) || !within(y, 0, MAX_LEVEL)) {
            begun.drop();
            return false;
        }
        begun.startAt(a, y);
        return true;
    }

    public int next(int y) {
        if (begun.size == 0 || !within(y, 0, MAX_LEVEL) || begun.end() >= ground.width) {
            return NONE;
        }
        begun.add(y);
        return begun.size;
    }

    public int line() {
        return ground.bears(begun) ? 1 : 0;
    }

    public long share(int what) throws NoSuchElementException {
        if (!within(what, 0, 3) || !ground.bears(begun)) {
            throw new NoSuchElementException("no line, or no such what");
        }
        long holds = ground.holdsAlong(begun);
        long drives = ground.drivesAlong(begun);
        if (what == 0) {
            return holds;
        }
        if (what == 1) {
            return drives;
        }
        if (drives <= 0) {
            throw new NoSuchElementException("the line has no share");
        }
        begunShare.become(holds, drives);
        return what == 2 ? begunShare.upper : begunShare.lower;
    }

    public long worst(int what) {
        if (!within(what, 0, 4) || !knowWorst()) {
            return NONE;
        }
        switch (what) {
            case 0:
                return worstShare.upper;
            case 1:
                return worstShare.lower;
            case 2:
                return worstLine.start;
            case 3:
                return worstLine.end();
            default:
                return worstLine.size;
        }
    }

    public int height(int k) {
        if (!knowWorst() || !within(k, 0, worstLine.size - 1)) {
            return NONE;
        }
        return worstLine.heights[k];
    }

    public int rise(int p, int q) {
        if (!isRatio(p, q)) {
            return NONE;
        }
        ground.reckon();
        // More WATER only lessens what HOLDS, so what stands at a level stands at every lower one.
        int risen = NONE;
        for (int leap = 16; leap > 0; leap = leap / 2) {
            if (risen + leap <= MAX_LEVEL && standsRisen(risen + leap, p, q)) {
                risen = risen + leap;
            }
        }
        return risen;
    }

    public int act(int kind, int column, int n) {
        if (!within(kind, DIG, BURDEN) || !ground.has(column)) {
            return NONE;
        }
        boolean isLevel = kind == DIG || kind == DRAIN;
        if (!within(n, 0, isLevel ? MAX_LEVEL : MAX_AMOUNT)) {
            return NONE;
        }
        return acts.add(kind, column, n);
    }

    public boolean perform(int act) {
        if (!acts.has(act)) {
            return false;
        }
        acts.doOn(ground, act);
        worstKnown = false;
        return true;
    }

    public int order(int p, int q) {
        if (!isRatio(p, q)) {
            return NONE;
        }
        ground.reckon();
        int all = (1 << acts.size) - 1;
        for (int set = 0; set <= all; set++) {
            dead[set] = false;
        }
        // All ACTS come first: if the GROUND does not stand behind them, no ORDER can end well.
        if (all != 0 && !(standsBehind(all, p, q) && leadsOn(0, 0, p, q))) {
            return NO_ORDER;
        }
        System.arraycopy(tried, 0, steps, 0, MAX_ACTS);
        stepCount = acts.size;
        return stepCount;
    }

    public int step(int k) {
        return within(k, 0, stepCount - 1) ? steps[k] : NONE;
    }

    public int count(int what) {
        switch (what) {
            case 0:
                return ground.width;
            case 1:
                return earths.size;
            case 2:
                return acts.size;
            case 3:
                return ground.cellCount();
            default:
                return NONE;
        }
    }

    private static boolean within(int v, int least, int most) {
        return v >= least && v <= most;
    }

    private static boolean isRatio(int p, int q) {
        return within(p, 1, MAX_TERM) && within(q, 1, MAX_TERM);
    }

    private boolean knowWorst() {
        if (!worstKnown) {
            ground.reckon();
            search.study(ground);
            worstExists = search.findWorst(worstLine, worstShare);
            if (worstExists) {
                search.findFirst(worstLine, worstShare);
            }
            worstKnown = true;
        }
        return worstExists;
    }

    private boolean standsRisen(int n, int p, int q) {
        trial.copy(ground);
        trial.raiseWater(n);
        trial.reckon();
        search.study(trial);
        return search.stands(p, q);
    }

    private boolean standsBehind(int set, int p, int q) {
        trial.copy(ground);
        for (int act = 0; act < acts.size; act++) {
            if ((set & (1 << act)) != 0) {
                acts.doOn(trial, act);
            }
        }
        trial.reckon();
        search.study(trial);
        return search.stands(p, q);
    }

    /**
     * Whether from a set, of so many ACTS, one can go on to all; how is written to what is tried.
     * The GROUND behind some ACTS is the same whatever their order (least levels and capped sums of
     * one COLUMN can be taken in any order), so a set that did not lead on once never does.
     */
    private boolean leadsOn(int set, int size, int p, int q) {
        if (size >= acts.size) {
            return true;
        }
        for (int act = 0; act < acts.size; act++) {
            int more = set | (1 << act);
            if (more != set && !dead[more]) {
                tried[size] = act;
                boolean last = size + 1 == acts.size;
                if (last || standsBehind(more, p, q) && leadsOn(more, size + 1, p, q)) {
                    return true;
                }
                dead[more] = true;
            }
        }
        return false;
    }

    /** The EARTHS told so far. */
    private static final class Earths {
        final int[] weights = new int[MAX_EARTHS];
        final int[] holds = new int[MAX_EARTHS];
        final int[] rubs = new int[MAX_EARTHS];
        final boolean[] rocks = new boolean[MAX_EARTHS];
        int size = 0;

        boolean has(int earth) {
            return within(earth, 0, size - 1);
        }

        int add(int weight, int hold, int rub, boolean rock) {
            if (size >= MAX_EARTHS) {
                return NONE;
            }
            weights[size] = weight;
            holds[size] = hold;
            rubs[size] = rub;
            rocks[size] = rock;
            size++;
            return size - 1;
        }
    }

    /** A number by another one above 0, in least terms. */
    private static final class Fraction {
        private static final int MOST_DIVISIONS = 200;

        long upper = 0;
        long lower = 1;

        void become(long above, long below) {
            long common = greatestCommon(above, below);
            upper = common > 1 ? above / common : above;
            lower = common > 1 ? below / common : below;
        }

        private static long greatestCommon(long x, long y) {
            long a = x;
            long b = y;
            // The remainders at least halve every two rounds, so a long needs fewer than these.
            for (int k = 0; k < MOST_DIVISIONS && b != 0; k++) {
                long left = a % b;
                a = b;
                b = left;
            }
            return a;
        }
    }

    /** Heights from a boundary between COLUMNS on; without any it is no LINE at all. */
    private static final class Line {
        final int[] heights = new int[MAX_COLUMNS + 1];
        int start = 0;
        int size = 0;

        void drop() {
            size = 0;
        }

        void startAt(int a, int y) {
            start = a;
            heights[0] = y;
            size = 1;
        }

        void add(int y) {
            if (size < heights.length) {
                heights[size] = y;
                size++;
            }
        }

        int end() {
            return start + size - 1;
        }
    }

    /** A COLUMN, with what a LINE meets in it kept for every pair of ends once it has been reckoned. */
    private static final class Column {
        final int[] cells;
        int tall = 0;
        int water = 0;
        int load = 0;
        int nails = 0;
        private final Earths earths;
        private final int[] presses = new int[LEVELS];
        private final int[] holds = new int[LEVELS * DROPS];
        private boolean reckoned = false;

        /** A twin looks at the same CELLS, but lays none: it may only lose some of them. */
        Column(Earths earths, int[] cells) {
            this.earths = earths;
            this.cells = cells;
        }

        void clear() {
            tall = 0;
            water = 0;
            load = 0;
            nails = 0;
            reckoned = false;
        }

        /** The reckoned rows are copied too, so that only what a trial changes is reckoned again. */
        void copy(Column other) {
            tall = other.tall;
            water = other.water;
            load = other.load;
            nails = other.nails;
            System.arraycopy(other.presses, 0, presses, 0, LEVELS);
            System.arraycopy(other.holds, 0, holds, 0, LEVELS * DROPS);
            reckoned = other.reckoned;
        }

        void pile(int earth, int n) {
            int top = Math.min(tall + n, MAX_LEVEL);
            for (int y = tall; y < top; y++) {
                cells[y] = earth;
            }
            tall = top;
            reckoned = false;
        }

        void digTo(int n) {
            tall = Math.min(tall, n);
            reckoned = false;
        }

        void put(int what, int v) {
            if (what == WATER) {
                water = v;
            } else if (what == LOAD) {
                load = v;
            } else {
                nails = v;
            }
            reckoned = false;
        }

        /** HOLDS of a LINE whose lesser end is low, with such a DROP either way; NONE if none can go so. */
        int holdsAt(int low, int drop) {
            if (low < 0 || low >= tall || drop < 0 || drop >= DROPS || low + drop > tall) {
                return NONE;
            }
            return holds[low * DROPS + drop];
        }

        /** DRIVES of a LINE whose greater end is high, with such a DROP (below 0 where it rises). */
        int drivesFrom(int high, int drop) {
            return high >= 0 && high <= tall ? 10 * presses[high] * drop : 0;
        }

        void reckon() {
            if (reckoned) {
                return;
            }
            presses[tall] = load;
            for (int y = tall - 1; y >= 0; y--) {
                presses[y] = presses[y + 1] + earths.weights[cells[y]];
            }
            for (int low = 0; low < tall; low++) {
                for (int drop = 0; drop < DROPS; drop++) {
                    holds[low * DROPS + drop] = low + drop > tall ? NONE : reckonHolds(low, drop);
                }
            }
            reckoned = true;
        }

        private int reckonHolds(int low, int drop) {
            int earth = cells[low];
            if (earths.rocks[earth]) {
                return NONE;
            }
            int high = low + drop;
            int q = 1 + drop * drop;
            int lift = 10 * q * Math.max(water - high, 0);
            int rubbing = earths.rubs[earth] * Math.max(presses[high] - lift, 0);
            return 10 * earths.holds[earth] * q + rubbing + 10 * nails;
        }
    }

    /** The COLUMNS, of which the first width ones count. */
    private static final class Ground {
        final Column[] columns = new Column[MAX_COLUMNS];
        int width = MIN_COLUMNS;

        Ground(Earths earths) {
            for (int i = 0; i < MAX_COLUMNS; i++) {
                columns[i] = new Column(earths, new int[MAX_LEVEL]);
            }
        }

        /** One for trials of what becomes of another one. */
        Ground(Ground other) {
            for (int i = 0; i < MAX_COLUMNS; i++) {
                columns[i] = new Column(other.columns[i].earths, other.columns[i].cells);
            }
        }

        boolean has(int column) {
            return within(column, 0, width - 1);
        }

        void clearTo(int w) {
            width = w;
            for (int i = 0; i < MAX_COLUMNS; i++) {
                columns[i].clear();
            }
        }

        void copy(Ground other) {
            width = other.width;
            for (int i = 0; i < width; i++) {
                columns[i].copy(other.columns[i]);
            }
        }

        void reckon() {
            for (int i = 0; i < width; i++) {
                columns[i].reckon();
            }
        }

        void raiseWater(int n) {
            for (int i = 0; i < width; i++) {
                columns[i].put(WATER, Math.min(columns[i].water + n, MAX_LEVEL));
            }
        }

        int cellCount() {
            int sum = 0;
            for (int i = 0; i < width; i++) {
                sum = sum + columns[i].tall;
            }
            return sum;
        }

        boolean bears(Line line) {
            if (line.size < 2 || line.end() > width) {
                return false;
            }
            if (line.heights[0] != columns[line.start].tall) {
                return false;
            }
            if (line.heights[line.size - 1] != columns[line.end() - 1].tall) {
                return false;
            }
            for (int k = 0; k + 1 < line.size; k++) {
                if (holdsOfPart(line, k) == NONE) {
                    return false;
                }
            }
            return true;
        }

        /** Of a LINE that the GROUND bears. */
        long holdsAlong(Line line) {
            long sum = 0;
            for (int k = 0; k + 1 < line.size; k++) {
                sum = sum + holdsOfPart(line, k);
            }
            return sum;
        }

        /** Of a LINE that the GROUND bears. */
        long drivesAlong(Line line) {
            long sum = 0;
            for (int k = 0; k + 1 < line.size; k++) {
                Column c = columns[line.start + k];
                c.reckon();
                int high = Math.max(line.heights[k], line.heights[k + 1]);
                sum = sum + c.drivesFrom(high, line.heights[k] - line.heights[k + 1]);
            }
            return sum;
        }

        private int holdsOfPart(Line line, int k) {
            Column c = columns[line.start + k];
            c.reckon();
            int low = Math.min(line.heights[k], line.heights[k + 1]);
            return c.holdsAt(low, Math.abs(line.heights[k] - line.heights[k + 1]));
        }
    }

    /** The ACTS told so far. */
    private static final class Acts {
        int size = 0;
        private final int[] kinds = new int[MAX_ACTS];
        private final int[] places = new int[MAX_ACTS];
        private final int[] amounts = new int[MAX_ACTS];

        boolean has(int act) {
            return within(act, 0, size - 1);
        }

        int add(int kind, int column, int n) {
            if (size >= MAX_ACTS) {
                return NONE;
            }
            kinds[size] = kind;
            places[size] = column;
            amounts[size] = n;
            size++;
            return size - 1;
        }

        void doOn(Ground g, int act) {
            if (!has(act) || !g.has(places[act])) {
                return;
            }
            Column c = g.columns[places[act]];
            int n = amounts[act];
            switch (kinds[act]) {
                case DIG:
                    c.digTo(n);
                    break;
                case NAIL:
                    c.put(NAILS, Math.min(c.nails + n, MAX_AMOUNT));
                    break;
                case DRAIN:
                    c.put(WATER, Math.min(c.water, n));
                    break;
                default:
                    c.put(LOAD, Math.min(c.load + n, MAX_AMOUNT));
                    break;
            }
        }
    }

    /**
     * Looks at all LINES of a GROUND at once. A LINE's key for p / q is q times its HOLDS less p times
     * its DRIVES: it is below 0 just for LINES with a SHARE below p / q, as HOLDS are never below 0.
     * The least key of all that may follow a height is kept for each height, from the right to the left.
     */
    private static final class Search {
        private static final long FAR = 1L << 62;
        /** Above the DRIVES of any LINE (12 times 10 times 1719 times 4); keys stay below FAR by far. */
        private static final long FINE = 1L << 20;
        /** Each round halves the gap to the WORST or the DRIVES, so that some sixty would be many. */
        private static final int MOST_ROUNDS = 1000;

        private Ground studied;
        private final long[] rests = new long[(MAX_COLUMNS + 1) * LEVELS];
        private final long[] wholes = new long[MAX_COLUMNS];
        private long p = 0;
        private long q = 1;
        private int last = MIN_COLUMNS;
        private boolean anyEnd = true;

        Search(Ground ground) {
            studied = ground;
        }

        /** Of a GROUND that is reckoned. */
        void study(Ground ground) {
            studied = ground;
        }

        /** Whether the WORST is not below upper / lower. */
        boolean stands(long upper, long lower) {
            aim(upper, lower);
            weigh(0, studied.width, true);
            return wholes[leastStart()] >= 0;
        }

        /**
         * Writes the WORST and one of its LINES; false if no LINE has a SHARE. For 1 / 0 a key below 0
         * is that of a LINE with DRIVES above 0; from there on each round takes the LINE that is
         * furthest below the SHARE found so far, till there is none below it.
         */
        boolean findWorst(Line line, Fraction share) {
            aim(1, 0);
            for (int k = 0; k < MOST_ROUNDS; k++) {
                weigh(0, studied.width, true);
                int a = leastStart();
                if (wholes[a] >= 0) {
                    return k > 0;
                }
                follow(a, wholes[a], line);
                share.become(studied.holdsAlong(line), studied.drivesAlong(line));
                aim(share.upper, share.lower);
            }
            return false;
        }

        /**
         * Writes the first of all LINES that have the WORST as their SHARE. They are all those with a
         * key below 0 for a fraction above the WORST by less than any other SHARE is.
         */
        void findFirst(Line line, Fraction worst) {
            aim(worst.upper * FINE + 1, worst.lower * FINE);
            weigh(0, studied.width, true);
            int a = 0;
            while (a < studied.width - 1 && wholes[a] >= 0) {
                a++;
            }
            for (int b = a + 1; b <= studied.width; b++) {
                weigh(a, b, false);
                if (wholes[a] < 0) {
                    follow(a, -1, line);
                    return;
                }
            }
        }

        private void aim(long upper, long lower) {
            p = upper;
            q = lower;
        }

        /** Of LINES within COLUMNS a .. b - 1, that end anywhere or at b alone. */
        private void weigh(int a, int b, boolean endsAnywhere) {
            last = b;
            anyEnd = endsAnywhere;
            clearRests(b);
            allowEnd(b);
            for (int i = b - 1; i >= a; i--) {
                clearRests(i);
                weighColumn(i);
                wholes[i] = rests[i * LEVELS + studied.columns[i].tall];
                allowEnd(i);
            }
        }

        private void clearRests(int i) {
            for (int y = 0; y < LEVELS; y++) {
                rests[i * LEVELS + y] = FAR;
            }
        }

        private void allowEnd(int i) {
            if (i > 0 && (i == last || anyEnd)) {
                int at = i * LEVELS + studied.columns[i - 1].tall;
                rests[at] = Math.min(rests[at], 0L);
            }
        }

        private void weighColumn(int i) {
            Column c = studied.columns[i];
            for (int low = 0; low < c.tall; low++) {
                for (int drop = 0; drop < DROPS; drop++) {
                    int holds = c.holdsAt(low, drop);
                    if (holds == NONE) {
                        break;
                    }
                    long held = q * holds;
                    long driven = p * c.drivesFrom(low + drop, drop);
                    better(i, low, low + drop, held + driven);
                    better(i, low + drop, low, held - driven);
                }
            }
        }

        private void better(int i, int left, int right, long key) {
            long rest = rests[(i + 1) * LEVELS + right];
            if (rest != FAR && key + rest < rests[i * LEVELS + left]) {
                rests[i * LEVELS + left] = key + rest;
            }
        }

        private int leastStart() {
            int best = 0;
            for (int a = 1; a < studied.width; a++) {
                if (wholes[a] < wholes[best]) {
                    best = a;
                }
            }
            return best;
        }

        /** Writes the LINE from a with the least heights whose key is bound at most; one there must be. */
        private void follow(int a, long bound, Line line) {
            int y = studied.columns[a].tall;
            long room = bound;
            line.startAt(a, y);
            for (int i = a; i < last; i++) {
                if (i > a && anyEnd && room >= 0 && y == studied.columns[i - 1].tall) {
                    return;
                }
                int right = leastRight(i, y, room);
                if (right == NONE) {
                    return;
                }
                room = room - keyOf(i, y, right);
                line.add(right);
                y = right;
            }
        }

        private int leastRight(int i, int left, long room) {
            int most = Math.min(left + DROPS - 1, studied.columns[i].tall);
            for (int right = Math.max(left - DROPS + 1, 0); right <= most; right++) {
                long key = keyOf(i, left, right);
                long rest = rests[(i + 1) * LEVELS + right];
                if (key != FAR && rest != FAR && key + rest <= room) {
                    return right;
                }
            }
            return NONE;
        }

        private long keyOf(int i, int left, int right) {
            Column c = studied.columns[i];
            int holds = c.holdsAt(Math.min(left, right), Math.abs(left - right));
            if (holds == NONE) {
                return FAR;
            }
            return q * holds - p * c.drivesFrom(Math.max(left, right), left - right);
        }
    }
}
