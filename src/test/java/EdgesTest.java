/**
 * One method a sentence of the document that names a bound: the last value that is still within it and
 * the first beyond it, on both sides. What refused calls leave behind is RefusedTest's.
 */
public final class EdgesTest {
    private static final int NONE = SlipBench.NONE;
    private static final long NO_SUCH = Check.NO_SUCH_ELEMENT;
    private static final long BOUNDS = Check.OUT_OF_BOUNDS;
    private static final int LEAST = Integer.MIN_VALUE;
    private static final int MOST = Integer.MAX_VALUE;

    public static void main(String[] args) {
        widths();
        cellsOfAColumn();
        sixEarths();
        earthsBounds();
        rockIsNotLookedAt();
        watersLoadsNails();
        allZeroAtFirst();
        lineFromAToB();
        lineBeginsAtTheHeight();
        lineEndsAtTheHeight();
        endsDifferByFour();
        noneAboveTheHeight();
        lowBelowTheHeight();
        cellAtLowIsNoRock();
        lineInAColumnOf24();
        lineThroughAnEmptyColumn();
        pressFromHighOn();
        liftAboveHigh();
        pressAboveLift();
        dropsAndQ();
        shareWithDrivesAboveZero();
        worstInLeastTerms();
        worstLeastA();
        worstAnyA();
        worstLeastB();
        worstLeastHeights();
        riseIsNotBelow();
        riseUpTo24();
        riseAnyN();
        riseOfEachPlace();
        ratioBounds();
        Check.end();
    }

    private static void walk(SlipBench x, int a, int... ys) {
        Check.due("begin", true, x.begin(a, ys[0]));
        for (int k = 1; k < ys.length; k++) {
            Check.due("next", k + 1, x.next(ys[k]));
        }
    }

    private static void isLine(String what, boolean due, SlipBench x, int a, int... ys) {
        walk(x, a, ys);
        Check.due(what, due ? 1 : 0, x.line());
        Check.due(what + ": its holds", due, Check.share(x, 0) != NO_SUCH);
    }

    /** COLUMNS of such HEIGHTS of one EARTH: weight 10, hold 1, rub 1. */
    private static SlipBench heights(int... talls) {
        SlipBench x = new SlipBench();
        x.ground(talls.length);
        x.earth(10, 1, 1, false);
        for (int i = 0; i < talls.length; i++) {
            if (talls[i] > 0) {
                x.lay(i, 0, talls[i]);
            }
        }
        return x;
    }

    private static void widths() {
        SlipBench x = new SlipBench();
        int[] wrong = {LEAST, -12, -2, -1, 0, 1, 13, 14, 24, MOST};
        for (int w : wrong) {
            Check.due("W " + w, false, x.ground(w));
            Check.due("W stays", 2, x.count(0));
        }
        for (int w = 2; w <= 12; w++) {
            Check.due("W " + w, true, x.ground(w));
            Check.due("W is told", w, x.count(0));
            Check.due("the last column", 0, Check.look(x, w - 1, 3));
            Check.due("none behind it", BOUNDS, Check.look(x, w, 3));
        }
        Check.due("fewer again", true, x.ground(2));
        Check.due("the third is gone", BOUNDS, Check.look(x, 2, 3));
    }

    private static void cellsOfAColumn() {
        for (int tall = 0; tall <= 24; tall++) {
            SlipBench x = heights(tall, 0);
            int room = 24 - tall;
            Check.due("one too many upon " + tall, NONE, x.lay(0, 0, room + 1));
            Check.due("far too many upon " + tall, NONE, x.lay(0, 0, MOST));
            Check.due("nothing happened", tall, Check.look(x, 0, 3));
            if (room > 0) {
                Check.due("just as many upon " + tall, 24, x.lay(0, 0, room));
            }
            Check.due("full", NONE, x.lay(0, 0, 1));
            Check.due("none below the first", NONE, x.cell(0, -1));
            Check.due("the first", 0, x.cell(0, 0));
            Check.due("the last", 0, x.cell(0, 23));
            Check.due("none above the last", NONE, x.cell(0, 24));
            Check.due("the most cells", 24, x.count(3));
        }
    }

    private static void sixEarths() {
        SlipBench x = new SlipBench();
        for (int e = 0; e < 6; e++) {
            Check.due("not yet", NONE, x.lay(0, e, 1));
            Check.due("earth", e, x.earth(1 + e, e, e, e == 3));
            Check.due("now", e + 1, x.lay(0, e, 1));
            Check.due("its number in the cell", e, x.cell(0, e));
        }
        Check.due("a seventh", NONE, x.earth(1, 0, 0, false));
        Check.due("none of it to lay", NONE, x.lay(0, 6, 1));
        Check.due("six", 6, x.count(1));
    }

    private static void earthsBounds() {
        int[][] bad = {{0, 0, 0}, {31, 0, 0}, {LEAST, 0, 0}, {MOST, 0, 0}, {1, -1, 0}, {1, 100, 0},
            {1, LEAST, 0}, {1, MOST, 0}, {1, 0, -1}, {1, 0, 10}, {1, 0, LEAST}, {1, 0, MOST}, {30, 99, 10},
            {30, 100, 9}, {31, 99, 9}, {0, -1, -1}};
        SlipBench x = new SlipBench();
        for (int[] v : bad) {
            Check.due("earth " + v[0] + " " + v[1] + " " + v[2], NONE, x.earth(v[0], v[1], v[2], false));
            Check.due("none told", 0, x.count(1));
        }
        int[][] good = {{1, 0, 0}, {30, 0, 0}, {1, 99, 0}, {1, 0, 9}, {30, 99, 9}};
        for (int k = 0; k < good.length; k++) {
            Check.due("earth " + k, k, x.earth(good[k][0], good[k][1], good[k][2], false));
        }
    }

    private static void rockIsNotLookedAt() {
        int[] any = {LEAST, -1, 0, 99, 100, MOST};
        for (int v : any) {
            SlipBench x = new SlipBench();
            Check.due("rock's hold " + v, 0, x.earth(1, v, 0, true));
            Check.due("rock's rub " + v, 1, x.earth(30, 0, v, true));
            Check.due("rock of no weight", NONE, x.earth(0, v, v, true));
            Check.due("rock of too much", NONE, x.earth(31, v, v, true));
            x.earth(2, 1, 1, false);
            x.lay(0, 2, 3);
            x.lay(0, 1, 1);
            x.lay(1, 2, 2);
            isLine("rock weighs upon a line", true, x, 0, 4, 1, 2);
            x.begin(0, 4);
            x.next(3);
            x.next(2);
            Check.due("no line along rock", 0, x.line());
        }
    }

    private static void watersLoadsNails() {
        int[] most = {24, 999, 999};
        for (int what = 0; what < 3; what++) {
            SlipBench x = new SlipBench();
            int[] good = {0, 1, most[what] - 1, most[what], 0};
            int[] bad = {-1, most[what] + 1, LEAST, MOST};
            for (int v : good) {
                Check.due("set " + what + " " + v, true, x.set(0, what, v));
                for (int b : bad) {
                    Check.due("set " + what + " " + b, false, x.set(0, what, b));
                    Check.due("look " + what, v, Check.look(x, 0, what));
                }
            }
        }
    }

    private static void allZeroAtFirst() {
        SlipBench x = new SlipBench();
        for (int round = 0; round < 2; round++) {
            int w = x.count(0);
            for (int i = 0; i < w; i++) {
                for (int what = 0; what < 4; what++) {
                    Check.due("at first", 0, Check.look(x, i, what));
                }
                Check.due("no cell", NONE, x.cell(i, 0));
                x.set(i, 0, 24);
                x.set(i, 1, 999);
                x.set(i, 2, 999);
            }
            x.ground(12);
        }
        x.ground(2);
        x.ground(12);
        Check.due("nothing stays of a column that was away", 0, Check.look(x, 11, 1));
    }

    private static void lineFromAToB() {
        SlipBench x = heights(2, 2, 2);
        Check.due("a -1", false, x.begin(-1, 2));
        Check.due("a W", false, x.begin(3, 2));
        isLine("no b behind a", false, x, 0, 2);
        isLine("the first column alone is level", false, x, 0, 2, 2);
        isLine("from 0 to W", true, x, 0, 2, 1, 1, 2);
        isLine("from W - 2 to W", true, x, 1, 2, 1, 2);
        isLine("from 0 to W - 1", true, x, 0, 2, 1, 2);
        Check.due("and one more", 4, x.next(2));
        Check.due("goes along the top", 0, x.line());
        Check.due("not beyond W", NONE, x.next(2));
        // A LINE of one COLUMN would have both ends at its HEIGHT, and LOW not below it.
        for (int a = 0; a < 3; a++) {
            for (int y = 0; y <= 24; y++) {
                x.begin(a, 2);
                x.next(y);
                Check.due("one column bears no line", 0, x.line());
            }
        }
        isLine("up to W - 1", true, x, 0, 2, 0, 2);
        Check.due("the ground is not wider", true, x.begin(2, 2));
        Check.due("from the last column", 2, x.next(0));
        Check.due("no further", NONE, x.next(2));
        Check.due("height 24 is a height", true, x.begin(0, 24));
        Check.due("24 is a height", 2, x.next(24));
        Check.due("25 is none", NONE, x.next(25));
        Check.due("0 is one", 3, x.next(0));
        Check.due("25 is none", false, x.begin(0, 25));
    }

    private static void lineBeginsAtTheHeight() {
        SlipBench x = heights(5, 5, 5);
        for (int y = 0; y <= 24; y++) {
            isLine("begins at " + y, y == 5, x, 0, y, 3, 5);
            isLine("begins inside at " + y, y == 5, x, 1, y, 3, 5);
        }
    }

    private static void lineEndsAtTheHeight() {
        SlipBench x = heights(5, 4, 6);
        for (int y = 0; y <= 24; y++) {
            isLine("ends at " + y, y == 4, x, 0, 5, 3, y);
            isLine("ends at W at " + y, y == 6, x, 1, 4, 3, y);
        }
    }

    private static void endsDifferByFour() {
        SlipBench x = heights(9, 9, 9);
        for (int y = 0; y <= 9; y++) {
            boolean near = y >= 5 && y < 9;
            isLine("down to " + y + " and up", near, x, 0, 9, y, 9);
        }
        isLine("down by 4 and 4", false, x, 0, 9, 5, 1, 9);
        SlipBench z = heights(9, 9, 9, 9);
        isLine("down by 4, 4, up by 4, 4", true, z, 0, 9, 5, 1, 5, 9);
        isLine("down by 4, 5", false, z, 0, 9, 5, 0, 4, 9);
        isLine("up by 5", false, z, 0, 9, 5, 4, 9);
        isLine("up by 5 inside", false, z, 0, 9, 5, 2, 7, 9);
        isLine("up by 4 inside", true, z, 0, 9, 5, 2, 6, 9);
    }

    private static void noneAboveTheHeight() {
        SlipBench x = heights(3, 6, 3);
        isLine("a left end above its column's", false, x, 1, 6, 4, 3);
        isLine("a left end below it", true, x, 1, 6, 2, 3);
        isLine("a right end at the height", true, x, 0, 3, 2, 6);
        isLine("a right end above its own column's", false, x, 0, 3, 4, 6);
        SlipBench v = heights(5, 3, 5);
        isLine("left and right at most at the height", true, v, 0, 5, 3, 2, 5);
        isLine("the left one above", false, v, 0, 5, 4, 2, 5);
        isLine("the right one above", false, v, 0, 5, 2, 4, 5);
    }

    private static void lowBelowTheHeight() {
        SlipBench x = heights(4, 3, 4);
        isLine("low just below", true, x, 0, 4, 2, 3);
        isLine("low at the height", false, x, 0, 4, 3, 3);
        isLine("inside, low just below", true, x, 0, 4, 3, 2, 4);
        isLine("inside, low at the height", false, x, 0, 4, 3, 3, 4);
        isLine("in the first, low at the height", false, x, 0, 4, 4, 3);
        isLine("low at the bottom", true, x, 0, 4, 0, 3);
    }

    private static void cellAtLowIsNoRock() {
        for (int rock = 0; rock < 5; rock++) {
            SlipBench x = new SlipBench();
            x.earth(10, 1, 1, false);
            x.earth(10, 1, 1, true);
            for (int y = 0; y < 5; y++) {
                x.lay(0, y == rock ? 1 : 0, 1);
                x.lay(1, 0, 1);
            }
            for (int low = 1; low < 5; low++) {
                isLine("rock at " + rock + ", low at " + low, low != rock, x, 0, 5, low, 5);
            }
        }
        SlipBench x = new SlipBench();
        x.earth(10, 1, 1, true);
        x.lay(0, 0, 4);
        x.lay(1, 0, 4);
        x.set(0, 1, 100);
        for (int low = 0; low < 4; low++) {
            isLine("all rock", false, x, 0, 4, low, 4);
        }
        Check.due("all rock has no worst", NONE, x.worst(0));
        Check.due("all rock rises", 24, x.rise(1000, 1));
    }

    private static void lineInAColumnOf24() {
        SlipBench x = heights(24, 24);
        isLine("24 down by 4", true, x, 0, 24, 20, 24);
        isLine("24 down by 5", false, x, 0, 24, 19, 24);
        isLine("24 down by 1", true, x, 0, 24, 23, 24);
        isLine("24 not down", false, x, 0, 24, 24, 24);
    }

    private static void lineThroughAnEmptyColumn() {
        SlipBench x = heights(3, 0, 3);
        isLine("from an empty column", false, x, 1, 0, 0);
        isLine("an empty column inside", false, x, 0, 3, 0, 0, 3);
        isLine("ends at an empty column", false, x, 0, 3, 0, 0);
        Check.due("no worst", NONE, x.worst(0));
        SlipBench z = heights(0, 0);
        isLine("no cells at all", false, z, 0, 0, 0, 0);
    }

    /** HOLDS and DRIVES of the LINE that was walked. */
    private static void sums(String what, long holds, long drives, SlipBench x) {
        Check.due(what + ": holds", holds, Check.share(x, 0));
        Check.due(what + ": drives", drives, Check.share(x, 1));
    }

    private static void pressFromHighOn() {
        SlipBench x = new SlipBench();
        x.ground(3);
        x.earth(1, 0, 1, false);
        x.earth(30, 0, 1, false);
        x.lay(0, 0, 4);
        x.lay(1, 0, 2);
        x.lay(1, 1, 1);
        x.lay(1, 0, 1);
        x.lay(2, 0, 4);
        // COLUMN 1 from 2 to 1: the CELL at HIGH counts, that below it does not.
        walk(x, 0, 4, 2, 1, 4);
        sums("from the cell at high on", 31, 10 * 31, x);
        walk(x, 0, 4, 3, 2, 4);
        sums("above that cell", 1, 10, x);
        walk(x, 0, 4, 3, 4);
        sums("high at the height, no load", 0, 0, x);
        x.set(1, 1, 999);
        sums("high at the height, the load alone", 999, -10 * 999, x);
        x.set(1, 1, 1);
        sums("the least load", 1, -10, x);
    }

    private static void liftAboveHigh() {
        SlipBench x = new SlipBench();
        x.ground(3);
        x.earth(1, 0, 1, false);
        x.lay(0, 0, 4);
        x.lay(1, 0, 4);
        x.lay(2, 0, 4);
        x.set(1, 1, 200);
        walk(x, 0, 4, 2, 1, 4);
        // COLUMN 1: HIGH 2, Q 2, PRESS 202.
        long[] due = {202, 202, 202, 182, 162, 142};
        for (int water = 0; water < due.length; water++) {
            x.set(1, 0, water);
            sums("water " + water, due[water], 2020, x);
        }
        x.set(1, 0, 24);
        sums("water 24", 0, 2020, x);
        x.set(1, 1, 999);
        sums("water 24, load 999", 1001 - 440, 10010, x);
        x.set(0, 0, 24);
        sums("another column's water", 1001 - 440, 10010, x);
    }

    private static void pressAboveLift() {
        SlipBench x = heights(3, 3);
        walk(x, 0, 3, 2, 3);
        // Each COLUMN: DROP 1, Q 2, HIGH 3, so PRESS is the LOAD and LIFT 20 for each water above 3.
        int[] loads = {0, 19, 20, 21, 22};
        int[] due = {0, 0, 0, 1, 2};
        x.set(0, 0, 4);
        for (int k = 0; k < loads.length; k++) {
            x.set(0, 1, loads[k]);
            sums("load " + loads[k], 2 * 20 + due[k], 10 * loads[k], x);
        }
        x.set(0, 2, 999);
        sums("nails", 2 * 20 + 2 + 9990, 220, x);
        x.set(1, 2, 1);
        sums("nails of both", 2 * 20 + 2 + 9990 + 10, 220, x);
    }

    private static void dropsAndQ() {
        int[] q = {1, 2, 5, 10, 17};
        for (int drop = 1; drop <= 4; drop++) {
            SlipBench x = heights(6, 6);
            x.set(0, 1, 7);
            walk(x, 0, 6, 6 - drop, 6);
            sums("drop " + drop, 2 * 10 * q[drop] + 7, 10 * 7 * drop, x);
            x.set(1, 1, 8);
            sums("drop back " + drop, 2 * 10 * q[drop] + 15, -10 * drop, x);
        }
        SlipBench x = heights(6, 6, 6);
        walk(x, 0, 6, 3, 3, 6);
        // The middle has no DROP: Q is 1, HIGH 3, PRESS three CELLS.
        sums("no drop", 2 * 10 * 10 + 10 + 30, 0, x);
        x.set(1, 0, 4);
        sums("no drop, lifted", 2 * 10 * 10 + 10 + 20, 0, x);
        SlipBench z = heights(4, 5, 4);
        walk(z, 0, 4, 0, 0, 4);
        sums("along the bottom", 2 * 10 * 17 + 10 + 50, 0, z);
        z.set(1, 0, 1);
        sums("along the bottom, lifted", 2 * 10 * 17 + 10 + 40, 0, z);
    }

    private static void shareWithDrivesAboveZero() {
        SlipBench x = heights(3, 3);
        walk(x, 0, 3, 2, 3);
        for (int left = 0; left <= 2; left++) {
            for (int right = 0; right <= 2; right++) {
                x.set(0, 1, left);
                x.set(1, 1, right);
                boolean has = left > right;
                sums("loads", 40 + left + right, 10 * (left - right), x);
                Check.due("upper of " + left + " " + right, has, Check.share(x, 2) != NO_SUCH);
                Check.due("lower of " + left + " " + right, has, Check.share(x, 3) != NO_SUCH);
                Check.due("worst of " + left + " " + right, has, x.worst(0) != NONE);
                Check.due("height of " + left + " " + right, has, x.height(0) != NONE);
            }
        }
        x.set(0, 1, 1);
        x.set(1, 1, 0);
        Check.due("41 by 10", 41, Check.share(x, 2));
        Check.due("41 by 10", 10, Check.share(x, 3));
    }

    private static void worstInLeastTerms() {
        SlipBench x = new SlipBench();
        x.earth(1, 0, 0, false);
        x.lay(0, 0, 1);
        x.lay(1, 0, 1);
        x.set(0, 1, 3);
        Check.due("nothing holds: upper", 0, x.worst(0));
        Check.due("nothing holds: lower", 1, x.worst(1));
        walk(x, 0, 1, 0, 1);
        Check.due("nothing holds: share's upper", 0, Check.share(x, 2));
        Check.due("nothing holds: share's lower", 1, Check.share(x, 3));
        x.set(1, 2, 3);
        Check.due("as much holds as drives", 1, x.worst(0));
        Check.due("as much holds as drives", 1, x.worst(1));
        x.set(1, 2, 6);
        Check.due("twice as much", 2, x.worst(0));
        Check.due("twice as much", 1, x.worst(1));
        x.set(1, 2, 999);
        Check.due("333 as much", 333, x.worst(0));
        Check.due("a line from 0", 0, x.worst(2));
        Check.due("to 2", 2, x.worst(3));
        Check.due("of three heights", 3, x.worst(4));
        Check.due("the last one", 1, x.height(2));
        Check.due("none behind it", NONE, x.height(3));
        Check.due("none before the first", NONE, x.height(-1));
        Check.due("least", NONE, x.height(LEAST));
        Check.due("most", NONE, x.height(MOST));
        Check.due("what 5", NONE, x.worst(5));
        Check.due("what -1", NONE, x.worst(-1));
    }

    /** Two LINES apart that are alike, and a third that is worse. */
    private static void worstLeastA() {
        SlipBench x = heights(3, 3, 0, 3, 3, 0, 3, 3);
        x.set(0, 1, 50);
        x.set(3, 1, 50);
        Check.due("of two alike the first", 0, x.worst(2));
        x.set(0, 1, 49);
        Check.due("the second is worse", 3, x.worst(2));
        x.set(0, 1, 50);
        x.set(6, 1, 51);
        Check.due("the third is worse", 6, x.worst(2));
        Check.due("to W", 8, x.worst(3));
        x.set(6, 1, 50);
        Check.due("all alike", 0, x.worst(2));
    }

    /** Nothing holds, so all that drives is alike. */
    private static SlipBench slick(int w) {
        SlipBench x = new SlipBench();
        x.ground(w);
        x.earth(1, 0, 0, false);
        return x;
    }

    /** A COLUMN without CELLS keeps the LINES before it apart from those behind it. */
    private static void worstAnyA() {
        for (int a = 0; a <= 10; a++) {
            SlipBench x = slick(12);
            for (int i = 0; i < 12; i++) {
                if (i != a - 1) {
                    x.lay(i, 0, 1);
                }
            }
            x.set(a, 1, 9);
            Check.due("a " + a, a, x.worst(2));
            Check.due("b behind " + a, a + 2, x.worst(3));
            Check.due("three heights", 3, x.worst(4));
        }
    }

    /** What falls with a LOAD of 9 at the left rises with one, but for the COLUMN before b. */
    private static void worstLeastB() {
        for (int b = 2; b <= 12; b++) {
            SlipBench x = slick(12);
            for (int i = 0; i < 12; i++) {
                x.lay(i, 0, 1);
                x.set(i, 1, i == b - 1 ? 0 : 9);
            }
            Check.due("a before " + b, 0, x.worst(2));
            Check.due("b " + b, b, x.worst(3));
            Check.due("heights up to " + b, b + 1, x.worst(4));
            for (int k = -1; k <= 13; k++) {
                int due = k == 0 || k == b ? 1 : k < 0 || k > b ? NONE : 0;
                Check.due("height " + k + " up to " + b, due, x.height(k));
            }
        }
    }

    private static void worstLeastHeights() {
        SlipBench x = new SlipBench();
        x.ground(3);
        x.earth(1, 0, 0, false);
        x.earth(1, 0, 0, true);
        for (int i = 0; i < 3; i++) {
            x.lay(i, 0, 4);
        }
        x.set(0, 1, 9);
        x.set(2, 1, 9);
        // To 2: 4, 0, 4 first of all that fall in COLUMN 0.
        Check.due("least heights", 0, x.height(1));
        Check.due("to 2", 2, x.worst(3));
        x.set(1, 1, 9);
        // To 2 nothing drives (9 down, 9 up); to 3 what falls in 1 by the CELLS above counts.
        Check.due("to 3", 3, x.worst(3));
        Check.due("first", 4, x.height(0));
        Check.due("then", 1, x.height(1));
        Check.due("then", 0, x.height(2));
        Check.due("last", 4, x.height(3));
        x.set(1, 1, 0);
        x.ground(2);
        x.lay(0, 1, 1);
        x.lay(0, 0, 3);
        x.lay(1, 0, 4);
        x.set(0, 1, 9);
        Check.due("not upon rock", 1, x.height(1));
    }

    private static void riseIsNotBelow() {
        SlipBench x = heights(4, 2);
        x.set(0, 1, 100);
        int p = (int) x.worst(0);
        int q = (int) x.worst(1);
        Check.due("p and q can be asked for", true, p <= 999 && q <= 999);
        Check.due("at the worst", true, x.rise(p, q) >= 0);
        Check.due("just above it", NONE, x.rise(p + 1, q));
        Check.due("an order of none at the worst", 0, x.order(1000, 1));
        x.act(2, 0, 0);
        Check.due("an act that changes nothing, at the worst", 1, x.order(p, q));
        Check.due("just above it", -2, x.order(p + 1, q));
        Check.due("by a lower number", -2, x.order(p, q - 1));
        Check.due("by a higher number", 1, x.order(p, q + 1));
    }

    private static void riseUpTo24() {
        SlipBench x = heights(4, 2);
        x.set(0, 1, 999);
        for (int water = 0; water <= 24; water++) {
            x.set(0, 0, water);
            x.set(1, 0, 24 - water);
            Check.due("rises all the way", 24, x.rise(1, 1000));
            Check.due("water stays", water, Check.look(x, 0, 0));
            Check.due("water stays", 24 - water, Check.look(x, 1, 0));
        }
    }

    /** Both COLUMNS of HEIGHT n: WATER lifts what is above it as soon as it is higher than n. */
    private static void riseAnyN() {
        for (int n = 1; n <= 24; n++) {
            SlipBench x = new SlipBench();
            x.earth(1, 0, 9, false);
            x.lay(0, 0, n);
            x.lay(1, 0, n);
            x.set(0, 1, 999);
            int p = (int) x.worst(0);
            int q = (int) x.worst(1);
            Check.due("rises to the height", n, x.rise(p, q));
            x.set(0, 0, n - 1);
            Check.due("1 below the height", n == 24 ? 24 : 1, x.rise(p, q));
            x.set(0, 0, n);
            Check.due("at the height", n == 24 ? 24 : 0, x.rise(p, q));
            if (n < 24) {
                x.set(0, 0, n + 1);
                Check.due("above the height, not even 0", NONE, x.rise(p, q));
            }
        }
    }

    /** The only LINES that drive are those of two COLUMNS, anywhere between others. */
    private static void riseOfEachPlace() {
        for (int a = 0; a <= 10; a++) {
            SlipBench x = new SlipBench();
            x.ground(12);
            x.earth(1, 0, 9, false);
            for (int i = 0; i < 12; i++) {
                if (i != a - 1 && i != a + 2) {
                    x.lay(i, 0, i == a || i == a + 1 ? 5 : 1);
                }
            }
            x.set(a, 1, 999);
            x.set(a, 0, 2);
            int p = (int) x.worst(0);
            int q = (int) x.worst(1);
            Check.due("from " + a, a, x.worst(2));
            Check.due("rise at " + a, 3, x.rise(p, q));
            Check.due("not even 0 at " + a, NONE, x.rise(p + 1, q));
            x.act(0, 11, 24);
            Check.due("an order at " + a, 1, x.order(p, q));
            Check.due("none at " + a, -2, x.order(p + 1, q));
        }
    }

    private static void ratioBounds() {
        SlipBench x = heights(4, 2);
        int[] good = {1, 2, 999, 1000};
        int[] bad = {LEAST, -1000, -1, 0, 1001, MOST};
        for (int g : good) {
            Check.due("rise " + g, 24, x.rise(g, g));
            Check.due("rise 1000 by " + g, 24, x.rise(1000, g));
            Check.due("rise " + g + " by 1000", 24, x.rise(g, 1000));
            Check.due("order " + g, 0, x.order(g, g));
            for (int b : bad) {
                Check.due("rise " + g + " by " + b, NONE, x.rise(g, b));
                Check.due("rise " + b + " by " + g, NONE, x.rise(b, g));
                Check.due("order " + g + " by " + b, NONE, x.order(g, b));
                Check.due("order " + b + " by " + g, NONE, x.order(b, g));
            }
        }
    }
}
