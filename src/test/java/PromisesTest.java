/** One method a promise: what it asks for, the edges that it names, and wrong inputs. */
public final class PromisesTest {
    private static final int NONE = SlipBench.NONE;
    private static final long NO_SUCH = Check.NO_SUCH_ELEMENT;
    private static final long BOUNDS = Check.OUT_OF_BOUNDS;
    private static final int[] FAR = {Integer.MIN_VALUE, Integer.MAX_VALUE};

    public static void main(String[] args) {
        newObject();
        ground();
        groundForgets();
        earth();
        earthOfRock();
        lay();
        set();
        look();
        cell();
        begin();
        next();
        line();
        lineOfRock();
        lineOfTheGroundAsItIs();
        share();
        shareOfEachPart();
        worst();
        worstOfSeveral();
        worstOfNow();
        height();
        rise();
        riseStopsAtTheTop();
        act();
        perform();
        performAgain();
        order();
        orderLeavesTheGround();
        orderLooksBehindEachAct();
        step();
        count();
        farArguments();
        fullBench();
        Check.end();
    }

    /** Two COLUMNS of 4 and 2 CELLS of an EARTH of weight 10, hold 1, rub 0, with a LOAD of 100 on the first. */
    private static SlipBench slope() {
        SlipBench x = new SlipBench();
        x.earth(10, 1, 0, false);
        x.lay(0, 0, 4);
        x.lay(1, 0, 2);
        x.set(0, 1, 100);
        return x;
    }

    private static void walk(SlipBench x, int a, int... ys) {
        x.begin(a, ys[0]);
        for (int k = 1; k < ys.length; k++) {
            x.next(ys[k]);
        }
    }

    private static void newObject() {
        SlipBench x = new SlipBench();
        Check.due("1 W", 2, x.count(0));
        Check.due("1 EARTHS", 0, x.count(1));
        Check.due("1 ACTS", 0, x.count(2));
        Check.due("1 CELLS", 0, x.count(3));
        for (int column = 0; column < 2; column++) {
            for (int what = 0; what < 4; what++) {
                Check.due("1 look", 0, Check.look(x, column, what));
            }
        }
        Check.due("1 line", 0, x.line());
        Check.due("1 next", NONE, x.next(0));
        Check.due("1 worst", NONE, x.worst(0));
        Check.due("1 step", NONE, x.step(0));
        Check.due("1 lay without earths", NONE, x.lay(0, 0, 1));
        Check.due("1 perform", false, x.perform(0));
    }

    private static void ground() {
        SlipBench x = new SlipBench();
        for (int w = -1; w <= 14; w++) {
            boolean can = w >= 2 && w <= 12;
            int before = x.count(0);
            Check.due("2 ground " + w, can, x.ground(w));
            Check.due("2 W", can ? w : before, x.count(0));
        }
    }

    private static void groundForgets() {
        SlipBench x = slope();
        x.set(1, 0, 3);
        x.set(1, 2, 4);
        x.act(1, 0, 1);
        walk(x, 0, 4, 1, 2);
        Check.due("2 false", false, x.ground(13));
        Check.due("2 false leaves the line", 1, x.line());
        Check.due("2 false leaves the acts", 1, x.count(2));
        Check.due("2 false leaves the cells", 6, x.count(3));
        Check.due("2 order", 1, x.order(1, 1000));
        Check.due("2 true", true, x.ground(2));
        Check.due("2 the cells are gone", 0, x.count(3));
        Check.due("2 the acts are gone", 0, x.count(2));
        Check.due("2 the earths stay", 1, x.count(1));
        Check.due("2 the line is gone", NONE, x.next(1));
        Check.due("2 the worst is gone", NONE, x.worst(0));
        Check.due("2 load", 0, Check.look(x, 0, 1));
        Check.due("2 water", 0, Check.look(x, 1, 0));
        Check.due("2 nails", 0, Check.look(x, 1, 2));
        Check.due("2 the latest order stays", 0, x.step(0));
        Check.due("2 lay", 4, x.lay(0, 0, 4));
        x.lay(1, 0, 2);
        Check.due("2 line", 0, x.line());
    }

    private static void earth() {
        SlipBench x = new SlipBench();
        Check.due("3 weight 0", NONE, x.earth(0, 1, 1, false));
        Check.due("3 weight 31", NONE, x.earth(31, 1, 1, false));
        Check.due("3 hold -1", NONE, x.earth(1, -1, 1, false));
        Check.due("3 hold 100", NONE, x.earth(1, 100, 1, false));
        Check.due("3 rub -1", NONE, x.earth(1, 1, -1, false));
        Check.due("3 rub 10", NONE, x.earth(1, 1, 10, false));
        Check.due("3 none so far", 0, x.count(1));
        Check.due("3 least", 0, x.earth(1, 0, 0, false));
        Check.due("3 most", 1, x.earth(30, 99, 9, false));
        for (int e = 2; e < 6; e++) {
            Check.due("3 same again", e, x.earth(30, 99, 9, false));
        }
        Check.due("3 a seventh", NONE, x.earth(1, 0, 0, false));
        Check.due("3 six", 6, x.count(1));
        Check.due("3 ground", true, x.ground(2));
        Check.due("3 still six", NONE, x.earth(1, 0, 0, false));
    }

    private static void earthOfRock() {
        SlipBench x = new SlipBench();
        Check.due("3 rock, hold and rub not looked at", 0, x.earth(30, -1, 10, true));
        Check.due("3 rock, hold and rub not looked at", 1, x.earth(1, 100, -1, true));
        Check.due("3 rock of no weight", NONE, x.earth(0, 0, 0, true));
        Check.due("3 rock of too much", NONE, x.earth(31, 0, 0, true));
    }

    private static void lay() {
        SlipBench x = new SlipBench();
        x.earth(3, 0, 0, false);
        x.earth(4, 0, 0, false);
        Check.due("4 one", 1, x.lay(0, 0, 1));
        Check.due("4 upon it", 4, x.lay(0, 1, 3));
        Check.due("4 another column", 24, x.lay(1, 1, 24));
        Check.due("4 too many", NONE, x.lay(0, 1, 21));
        Check.due("4 full", NONE, x.lay(1, 0, 1));
        Check.due("4 none", NONE, x.lay(0, 1, 0));
        Check.due("4 less than none", NONE, x.lay(0, 1, -1));
        Check.due("4 no such column", NONE, x.lay(2, 0, 1));
        Check.due("4 no such column", NONE, x.lay(-1, 0, 1));
        Check.due("4 no such earth", NONE, x.lay(0, 2, 1));
        Check.due("4 no such earth", NONE, x.lay(0, -1, 1));
        Check.due("4 nothing happened", 4, Check.look(x, 0, 3));
        Check.due("4 nothing happened", 28, x.count(3));
        Check.due("4 up to the most", 24, x.lay(0, 1, 20));
        Check.due("4 lowest", 0, x.cell(0, 0));
        Check.due("4 above", 1, x.cell(0, 1));
    }

    private static void set() {
        SlipBench x = new SlipBench();
        int[] most = {24, 999, 999};
        for (int what = 0; what < 3; what++) {
            Check.due("5 most", true, x.set(1, what, most[what]));
            Check.due("5 most", most[what], Check.look(x, 1, what));
            Check.due("5 above", false, x.set(1, what, most[what] + 1));
            Check.due("5 below", false, x.set(1, what, -1));
            Check.due("5 stays", most[what], Check.look(x, 1, what));
            Check.due("5 other column", 0, Check.look(x, 0, what));
        }
        for (int what = 0; what < 3; what++) {
            Check.due("5 least", true, x.set(1, what, 0));
            Check.due("5 least", 0, Check.look(x, 1, what));
            Check.due("5 no such column", false, x.set(2, what, 1));
            Check.due("5 no such column", false, x.set(-1, what, 1));
        }
        Check.due("5 no such what", false, x.set(0, 3, 1));
        Check.due("5 no such what", false, x.set(0, -1, 1));
        Check.due("5 height is none", 0, Check.look(x, 0, 3));
    }

    private static void look() {
        SlipBench x = slope();
        x.set(0, 0, 7);
        x.set(0, 2, 9);
        Check.due("6 water", 7, Check.look(x, 0, 0));
        Check.due("6 load", 100, Check.look(x, 0, 1));
        Check.due("6 nails", 9, Check.look(x, 0, 2));
        Check.due("6 height", 4, Check.look(x, 0, 3));
        Check.due("6 no such column", BOUNDS, Check.look(x, 2, 0));
        Check.due("6 no such column", BOUNDS, Check.look(x, -1, 0));
        Check.due("6 no such what", NO_SUCH, Check.look(x, 1, 4));
        Check.due("6 no such what", NO_SUCH, Check.look(x, 1, -1));
        Check.due("6 neither: the column is told first", BOUNDS, Check.look(x, 2, 4));
    }

    private static void cell() {
        SlipBench x = new SlipBench();
        x.earth(3, 0, 0, false);
        x.earth(3, 0, 0, true);
        x.lay(1, 1, 2);
        x.lay(1, 0, 1);
        Check.due("7 lowest", 1, x.cell(1, 0));
        Check.due("7 middle", 1, x.cell(1, 1));
        Check.due("7 top", 0, x.cell(1, 2));
        Check.due("7 above it", NONE, x.cell(1, 3));
        Check.due("7 below", NONE, x.cell(1, -1));
        Check.due("7 empty column", NONE, x.cell(0, 0));
        Check.due("7 no such column", NONE, x.cell(2, 0));
        Check.due("7 no such column", NONE, x.cell(-1, 0));
        x.act(0, 1, 1);
        x.perform(0);
        Check.due("7 dug away", NONE, x.cell(1, 1));
        x.lay(1, 0, 1);
        Check.due("7 laid anew", 0, x.cell(1, 1));
    }

    private static void begin() {
        SlipBench x = new SlipBench();
        Check.due("8 least", true, x.begin(0, 0));
        Check.due("8 most", true, x.begin(1, 24));
        Check.due("8 next of it", 2, x.next(0));
        Check.due("8 at W already", NONE, x.next(0));
        int[][] wrong = {{2, 0}, {-1, 0}, {0, 25}, {0, -1}};
        for (int[] v : wrong) {
            Check.due("8 begin", true, x.begin(0, 0));
            Check.due("8 wrong", false, x.begin(v[0], v[1]));
            Check.due("8 no line then", NONE, x.next(0));
            Check.due("8 no line then", 0, x.line());
        }
        x.ground(12);
        Check.due("8 last column", true, x.begin(11, 0));
        Check.due("8 at W", false, x.begin(12, 0));
    }

    private static void next() {
        SlipBench x = slope();
        Check.due("9 none begun", NONE, x.next(0));
        x.begin(0, 4);
        Check.due("9 too high", NONE, x.next(25));
        Check.due("9 too low", NONE, x.next(-1));
        Check.due("9 second", 2, x.next(1));
        Check.due("9 wrong ones change nothing", NONE, x.next(25));
        Check.due("9 third", 3, x.next(2));
        Check.due("9 at W", NONE, x.next(2));
        Check.due("9 at W nothing happens", 1, x.line());
        x.begin(0, 0);
        Check.due("9 a new line", 2, x.next(24));
        x.ground(12);
        x.begin(0, 0);
        for (int k = 2; k <= 13; k++) {
            Check.due("9 as many as there are", k, x.next(0));
        }
        Check.due("9 no more", NONE, x.next(0));
    }

    private static void line() {
        SlipBench x = slope();
        walk(x, 0, 4);
        Check.due("10 one height", 0, x.line());
        walk(x, 0, 4, 1);
        Check.due("10 its end is not at the height", 0, x.line());
        walk(x, 0, 4, 4);
        Check.due("10 its low is not below the height", 0, x.line());
        walk(x, 0, 4, 1, 2);
        Check.due("10 a line", 1, x.line());
        walk(x, 0, 4, 0, 2);
        Check.due("10 ends differ by 4", 1, x.line());
        walk(x, 0, 3, 1, 2);
        Check.due("10 its start is not at the height", 0, x.line());
        walk(x, 0, 4, 1, 1);
        Check.due("10 its end is below the height", 0, x.line());
        walk(x, 0, 4, 3, 2);
        Check.due("10 an end is above the height of the second", 0, x.line());
        walk(x, 0, 4, 2, 2);
        Check.due("10 low is at the height of the second", 0, x.line());
        x.lay(0, 0, 1);
        walk(x, 0, 5, 0, 2);
        Check.due("10 ends differ by 5", 0, x.line());
        walk(x, 0, 5, 1, 2);
        Check.due("10 ends differ by 4 again", 1, x.line());
        x.lay(1, 0, 4);
        walk(x, 0, 5, 1, 6);
        Check.due("10 ends differ by 5 upwards", 0, x.line());
        walk(x, 0, 5, 2, 6);
        Check.due("10 ends differ by 4 upwards", 1, x.line());
        walk(x, 1, 6, 6);
        Check.due("10 one column", 0, x.line());
    }

    private static void lineOfRock() {
        SlipBench x = new SlipBench();
        x.earth(5, 1, 1, true);
        x.earth(5, 1, 1, false);
        x.lay(0, 0, 1);
        x.lay(0, 1, 3);
        x.lay(1, 0, 2);
        x.lay(1, 1, 2);
        walk(x, 0, 4, 1, 4);
        Check.due("10 rock in the second", 0, x.line());
        walk(x, 0, 4, 0, 4);
        Check.due("10 rock in both", 0, x.line());
        walk(x, 0, 4, 2, 4);
        Check.due("10 just above the rock", 1, x.line());
        x.lay(0, 0, 1);
        walk(x, 0, 5, 2, 4);
        Check.due("10 rock above the line", 1, x.line());
        walk(x, 0, 5, 4, 4);
        Check.due("10 upon rock, low is no cell", 0, x.line());
    }

    private static void lineOfTheGroundAsItIs() {
        SlipBench x = slope();
        walk(x, 0, 4, 1, 2);
        x.lay(1, 0, 1);
        Check.due("10 the ground has grown", 0, x.line());
        x.act(0, 1, 2);
        x.perform(0);
        Check.due("10 and is dug again", 1, x.line());
        x.ground(3);
        Check.due("10 begun no more", 0, x.line());
    }

    private static void share() {
        SlipBench x = slope();
        for (int what = -1; what <= 4; what++) {
            Check.due("11 no line", NO_SUCH, Check.share(x, what));
        }
        walk(x, 0, 4, 1, 2);
        Check.due("11 holds", 10 * 10 + 10 * 2, Check.share(x, 0));
        Check.due("11 drives", 10 * 100 * 3, Check.share(x, 1));
        Check.due("11 upper", 1, Check.share(x, 2));
        Check.due("11 lower", 25, Check.share(x, 3));
        Check.due("11 no such what", NO_SUCH, Check.share(x, 4));
        Check.due("11 no such what", NO_SUCH, Check.share(x, -1));
        x.set(0, 1, 0);
        Check.due("11 drives of 0", 0, Check.share(x, 1));
        Check.due("11 holds still", 120, Check.share(x, 0));
        Check.due("11 no share", NO_SUCH, Check.share(x, 2));
        Check.due("11 no share", NO_SUCH, Check.share(x, 3));
        x.set(1, 1, 50);
        Check.due("11 drives below 0", -10 * 50, Check.share(x, 1));
        Check.due("11 no share", NO_SUCH, Check.share(x, 2));
        x.lay(1, 0, 1);
        Check.due("11 no line any more", NO_SUCH, Check.share(x, 0));
    }

    private static void shareOfEachPart() {
        SlipBench x = new SlipBench();
        x.ground(3);
        x.earth(7, 3, 4, false);
        x.earth(11, 5, 2, false);
        x.lay(0, 0, 3);
        x.lay(0, 1, 3);
        x.lay(1, 0, 2);
        x.lay(1, 1, 3);
        x.lay(2, 0, 4);
        x.set(0, 1, 60);
        x.set(1, 0, 5);
        x.set(1, 2, 8);
        x.set(2, 0, 24);
        walk(x, 0, 6, 3, 2, 4);
        Check.due("11 a line", 1, x.line());
        // COLUMN 0: DROP 3, Q 10, PRESS the LOAD alone, the EARTH at 3 is the second one.
        long holds = 10 * 5 * 10 + 2 * 60;
        long drives = 10 * 60 * 3;
        // COLUMN 1: DROP 1, Q 2, HIGH 3, PRESS 2 CELLS of 11, LIFT 10 times 2 times 2, above PRESS; LOW 2.
        holds += 10 * 5 * 2 + 10 * 8;
        drives += 10 * 22 * 1;
        // COLUMN 2: DROP -2, Q 5, HIGH 4 is the top: PRESS 0, LOW 2.
        holds += 10 * 3 * 5;
        Check.due("11 holds", holds, Check.share(x, 0));
        Check.due("11 drives", drives, Check.share(x, 1));
        Check.due("11 upper", 95, Check.share(x, 2));
        Check.due("11 lower", 202, Check.share(x, 3));
        x.set(1, 0, 4);
        Check.due("11 water 1 above: 20 of 22 are lifted", holds + 2 * 2, Check.share(x, 0));
        x.set(1, 0, 3);
        Check.due("11 water at high: nothing is lifted", holds + 2 * 22, Check.share(x, 0));
        x.set(1, 0, 0);
        Check.due("11 water below: nothing is lifted", holds + 2 * 22, Check.share(x, 0));
        x.set(2, 1, 13);
        Check.due("11 upwards it drives back", drives - 10 * 13 * 2, Check.share(x, 1));
    }

    private static void worst() {
        SlipBench x = slope();
        long[] due = {1, 25, 0, 2, 3};
        for (int what = 0; what < 5; what++) {
            Check.due("12 worst " + what, due[what], x.worst(what));
        }
        Check.due("12 no such what", NONE, x.worst(5));
        Check.due("12 no such what", NONE, x.worst(-1));
        x.set(0, 1, 0);
        for (int what = 0; what < 5; what++) {
            Check.due("12 no line has a share", NONE, x.worst(what));
        }
        SlipBench y = new SlipBench();
        y.earth(10, 0, 0, false);
        y.lay(0, 0, 4);
        y.lay(1, 0, 2);
        Check.due("12 nothing drives", NONE, y.worst(0));
        y.set(0, 1, 1);
        Check.due("12 nothing holds", 0, y.worst(0));
        Check.due("12 nothing holds", 1, y.worst(1));
        y.set(0, 1, 0);
        y.set(1, 1, 1);
        Check.due("12 it drives back alone", NONE, y.worst(0));
    }

    private static void worstOfSeveral() {
        SlipBench x = new SlipBench();
        x.ground(4);
        x.earth(5, 0, 0, false);
        for (int i = 0; i < 4; i++) {
            x.lay(i, 0, 3);
        }
        x.set(1, 1, 10);
        // Nothing holds, so all LINES that drive are alike: the first falls in COLUMN 1, from 1 to 0.
        Check.due("12 upper", 0, x.worst(0));
        Check.due("12 least a", 0, x.worst(2));
        Check.due("12 up to 2 nothing drives", 3, x.worst(3));
        Check.due("12 nor does 3, 0, 0, 3", 1, x.height(1));
        Check.due("12 then least heights", 0, x.height(2));
        x.set(0, 1, 11);
        Check.due("12 least a", 0, x.worst(2));
        Check.due("12 then least b", 2, x.worst(3));
        Check.due("12 then least heights", 0, x.height(1));
        x.set(1, 1, 999);
        Check.due("12 least b drives back", 3, x.worst(3));
        Check.due("12 heights", 0, x.height(1));
        Check.due("12 heights", 0, x.height(2));
    }

    private static void worstOfNow() {
        SlipBench x = slope();
        Check.due("12 lower", 25, x.worst(1));
        x.set(0, 2, 10);
        Check.due("12 nails are seen", 150, x.worst(1));
        x.set(0, 2, 0);
        x.act(3, 0, 100);
        x.perform(0);
        Check.due("12 an act is seen", 50, x.worst(1));
        x.rise(1, 7);
        x.order(1, 7);
        Check.due("12 trials are not seen", 50, x.worst(1));
        x.lay(1, 0, 1);
        Check.due("12 cells are seen", 3, x.height(2));
        x.ground(2);
        Check.due("12 no ground is seen", NONE, x.worst(1));
    }

    private static void height() {
        SlipBench x = slope();
        int[] due = {4, 1, 2};
        for (int k = 0; k < 3; k++) {
            Check.due("13 height " + k, due[k], x.height(k));
        }
        Check.due("13 no such", NONE, x.height(3));
        Check.due("13 no such", NONE, x.height(-1));
        x.set(0, 1, 0);
        Check.due("13 no line has a share", NONE, x.height(0));
    }

    private static void rise() {
        SlipBench x = new SlipBench();
        Check.due("14 no line with a share", 24, x.rise(1000, 1));
        x = slope();
        Check.due("14 at the worst itself", 24, x.rise(1, 25));
        Check.due("14 just above it", NONE, x.rise(1, 24));
        Check.due("14 in other terms", 24, x.rise(40, 1000));
        Check.due("14 p 0", NONE, x.rise(0, 1));
        Check.due("14 q 0", NONE, x.rise(1, 0));
        Check.due("14 p 1001", NONE, x.rise(1001, 1));
        Check.due("14 q 1001", NONE, x.rise(1, 1001));
        Check.due("14 p and q 1000", NONE, x.rise(1000, 1000));
        SlipBench y = new SlipBench();
        y.earth(10, 0, 5, false);
        y.lay(0, 0, 4);
        y.lay(1, 0, 2);
        y.set(0, 1, 100);
        Check.due("14 up to the height", 4, y.rise(1, 8));
        y.set(0, 0, 3);
        Check.due("14 from there on", 1, y.rise(1, 8));
        Check.due("14 the ground stays", 3, Check.look(y, 0, 0));
        y.set(0, 0, 5);
        Check.due("14 not even 0", NONE, y.rise(1, 8));
    }

    private static void riseStopsAtTheTop() {
        SlipBench x = new SlipBench();
        x.earth(1, 0, 1, false);
        x.lay(0, 0, 24);
        x.lay(1, 0, 22);
        x.set(0, 1, 999);
        x.set(1, 0, 24);
        Check.due("14 no water is above 24", 24, x.rise(1, 1000));
    }

    private static void act() {
        SlipBench x = new SlipBench();
        int[] most = {24, 999, 24, 999};
        for (int kind = 0; kind < 4; kind++) {
            Check.due("15 too many", NONE, x.act(kind, 0, most[kind] + 1));
            Check.due("15 too few", NONE, x.act(kind, 0, -1));
            Check.due("15 no such column", NONE, x.act(kind, 2, 0));
            Check.due("15 no such column", NONE, x.act(kind, -1, 0));
        }
        Check.due("15 no such kind", NONE, x.act(4, 0, 0));
        Check.due("15 no such kind", NONE, x.act(-1, 0, 0));
        Check.due("15 none so far", 0, x.count(2));
        for (int kind = 0; kind < 4; kind++) {
            Check.due("15 most", kind, x.act(kind, 1, most[kind]));
        }
        Check.due("15 least", 4, x.act(0, 0, 0));
        Check.due("15 same again", 5, x.act(0, 0, 0));
        Check.due("15 a seventh", NONE, x.act(1, 0, 0));
        Check.due("15 six", 6, x.count(2));
        x.ground(2);
        Check.due("15 from 0 on", 0, x.act(1, 0, 0));
    }

    private static void perform() {
        SlipBench x = slope();
        x.set(0, 0, 9);
        x.set(0, 2, 5);
        x.act(0, 0, 3);
        x.act(1, 0, 7);
        x.act(2, 0, 6);
        x.act(3, 0, 50);
        Check.due("16 none such", false, x.perform(4));
        Check.due("16 none such", false, x.perform(-1));
        long[][] due = {{9, 100, 5, 3}, {9, 100, 12, 3}, {6, 100, 12, 3}, {6, 150, 12, 3}};
        for (int act = 0; act < 4; act++) {
            Check.due("16 perform", true, x.perform(act));
            for (int what = 0; what < 4; what++) {
                Check.due("16 act " + act + " what " + what, due[act][what], Check.look(x, 0, what));
            }
        }
        Check.due("16 other columns stay", 2, Check.look(x, 1, 3));
        Check.due("16 other columns stay", 0, Check.look(x, 1, 2));
        Check.due("16 the acts stay", 4, x.count(2));
    }

    private static void performAgain() {
        SlipBench x = slope();
        x.act(1, 0, 600);
        x.act(3, 0, 999);
        x.act(0, 0, 10);
        x.act(2, 0, 10);
        x.perform(0);
        Check.due("16 once", 600, Check.look(x, 0, 2));
        x.perform(0);
        Check.due("16 again, 999 at most", 999, Check.look(x, 0, 2));
        x.perform(1);
        Check.due("16 load, 999 at most", 999, Check.look(x, 0, 1));
        Check.due("16 nothing to dig", true, x.perform(2));
        Check.due("16 nothing to dig", 4, Check.look(x, 0, 3));
        Check.due("16 nothing to drain", true, x.perform(3));
        Check.due("16 nothing to drain", 0, Check.look(x, 0, 0));
    }

    private static void order() {
        SlipBench x = slope();
        Check.due("17 without any", 0, x.order(1, 1));
        x.act(3, 0, 100);
        x.act(1, 0, 50);
        Check.due("17 an order", 2, x.order(1, 25));
        Check.due("17 first the nails", 1, x.step(0));
        Check.due("17 then the load", 0, x.step(1));
        Check.due("17 by their numbers", 2, x.order(1, 50));
        Check.due("17 first the load", 0, x.step(0));
        Check.due("17 none", -2, x.order(1, 1));
        int[][] wrong = {{0, 1}, {1, 0}, {1001, 1}, {1, 1001}, {-1, -1}};
        for (int[] v : wrong) {
            Check.due("17 no such p, q", NONE, x.order(v[0], v[1]));
        }
        Check.due("17 most", -2, x.order(1000, 1000));
        x.ground(2);
        Check.due("17 no such p, q, without acts", NONE, x.order(0, 1));
    }

    private static void orderLeavesTheGround() {
        SlipBench x = slope();
        x.set(0, 0, 3);
        x.act(0, 0, 2);
        x.act(1, 0, 5);
        x.act(2, 0, 0);
        x.act(3, 0, 5);
        Check.due("17 an order", 4, x.order(1, 1000));
        long[] due = {3, 100, 0, 4};
        for (int what = 0; what < 4; what++) {
            Check.due("17 the ground stays", due[what], Check.look(x, 0, what));
        }
        Check.due("17 its cells stay", 0, x.cell(0, 3));
    }

    private static void orderLooksBehindEachAct() {
        SlipBench x = slope();
        // As it is the WORST is 1 / 25, below what is asked; one ACT mends that.
        x.act(1, 0, 500);
        Check.due("17 what was before does not count", 1, x.order(1, 5));
        x.act(3, 0, 1);
        Check.due("17 but what is between does", 2, x.order(1, 5));
        Check.due("17 nails first", 0, x.step(0));
        x.ground(2);
        x.lay(0, 0, 4);
        x.lay(1, 0, 2);
        x.act(3, 0, 100);
        x.act(0, 0, 0);
        Check.due("17 without cells no line has a share", 2, x.order(1000, 1));
        Check.due("17 dug first", 1, x.step(0));
    }

    private static void step() {
        SlipBench x = slope();
        Check.due("18 no order yet", NONE, x.step(0));
        x.act(3, 0, 100);
        x.act(1, 0, 50);
        Check.due("18 none was found", -2, x.order(1, 1));
        Check.due("18 none to tell", NONE, x.step(0));
        x.order(1, 25);
        Check.due("18 first", 1, x.step(0));
        Check.due("18 second", 0, x.step(1));
        Check.due("18 no third", NONE, x.step(2));
        Check.due("18 none before", NONE, x.step(-1));
        x.order(1, 1);
        Check.due("18 -2 tells no number", 1, x.step(0));
        x.order(0, 1);
        Check.due("18 NONE tells no number", 1, x.step(0));
        x.perform(0);
        Check.due("18 acts done change nothing", 1, x.step(0));
        x.ground(2);
        Check.due("18 the latest one stays", 0, x.step(1));
        x.order(1, 1);
        Check.due("18 an order of none", NONE, x.step(0));
    }

    private static void count() {
        SlipBench x = slope();
        x.act(1, 0, 1);
        x.earth(1, 1, 1, true);
        x.act(0, 0, 1);
        x.act(0, 0, 1);
        Check.due("19 W", 2, x.count(0));
        Check.due("19 EARTHS", 2, x.count(1));
        Check.due("19 ACTS", 3, x.count(2));
        Check.due("19 CELLS", 6, x.count(3));
        Check.due("19 another", NONE, x.count(4));
        Check.due("19 another", NONE, x.count(-1));
        x.perform(1);
        Check.due("19 CELLS", 3, x.count(3));
        x.ground(12);
        Check.due("19 W", 12, x.count(0));
    }

    private static void farArguments() {
        SlipBench x = slope();
        x.act(1, 0, 1);
        for (int v : FAR) {
            Check.due("far ground", false, x.ground(v));
            Check.due("far earth", NONE, x.earth(v, 1, 1, true));
            Check.due("far earth", NONE, x.earth(1, v, 1, false));
            Check.due("far earth", NONE, x.earth(1, 1, v, false));
            Check.due("far lay", NONE, x.lay(v, 0, 1));
            Check.due("far lay", NONE, x.lay(0, v, 1));
            Check.due("far lay", NONE, x.lay(0, 0, v));
            Check.due("far set", false, x.set(v, 0, 1));
            Check.due("far set", false, x.set(0, v, 1));
            Check.due("far set", false, x.set(0, 0, v));
            Check.due("far look", BOUNDS, Check.look(x, v, 0));
            Check.due("far look", NO_SUCH, Check.look(x, 0, v));
            Check.due("far cell", NONE, x.cell(v, 0));
            Check.due("far cell", NONE, x.cell(0, v));
            walk(x, 0, 4, 1, 2);
            Check.due("far share", NO_SUCH, Check.share(x, v));
            Check.due("far next", NONE, x.next(v));
            Check.due("far begin", false, x.begin(v, 0));
            Check.due("far begin", false, x.begin(0, v));
            Check.due("far next", NONE, x.next(v));
            Check.due("far worst", NONE, x.worst(v));
            Check.due("far height", NONE, x.height(v));
            Check.due("far rise", NONE, x.rise(v, 1));
            Check.due("far rise", NONE, x.rise(1, v));
            Check.due("far act", NONE, x.act(v, 0, 0));
            Check.due("far act", NONE, x.act(0, v, 0));
            Check.due("far act", NONE, x.act(0, 0, v));
            Check.due("far perform", false, x.perform(v));
            Check.due("far order", NONE, x.order(v, 1));
            Check.due("far order", NONE, x.order(1, v));
            Check.due("far step", NONE, x.step(v));
            Check.due("far count", NONE, x.count(v));
        }
        Check.due("far ones change nothing", 25, x.worst(1));
    }

    /** The heaviest that can be, so that no sum may run over. */
    private static void fullBench() {
        SlipBench x = new SlipBench();
        x.ground(12);
        x.earth(30, 99, 9, false);
        for (int i = 0; i < 12; i++) {
            Check.due("full lay", 24, x.lay(i, 0, 24));
            x.set(i, 1, i < 6 ? 999 : 0);
            x.set(i, 2, 999);
        }
        walk(x, 0, 24, 20, 16, 12, 8, 4, 0, 4, 8, 12, 16, 20, 24);
        Check.due("full line", 1, x.line());
        long presses = 0;
        long halves = 0;
        for (int k = 0; k < 6; k++) {
            halves += 999;
            presses += 2 * 30 * 4 * k;
        }
        presses += halves;
        Check.due("full holds", 12 * (10 * 99 * 17 + 9990) + 9 * presses, Check.share(x, 0));
        Check.due("full drives", 10 * 4 * halves, Check.share(x, 1));
        long upper = x.worst(0);
        long lower = x.worst(1);
        Check.due("full worst is a fraction", true, upper > 0 && lower > 0);
        int size = (int) x.worst(4);
        x.begin((int) x.worst(2), x.height(0));
        for (int k = 1; k < size; k++) {
            x.next(x.height(k));
        }
        Check.due("full worst's own line", upper, Check.share(x, 2));
        Check.due("full worst's own line", lower, Check.share(x, 3));
        for (int k = 0; k < 6; k++) {
            x.act(k < 3 ? 1 : 3, k, 999);
        }
        Check.due("full order", 6, x.order(1, 1000));
        for (int k = 0; k < 6; k++) {
            Check.due("full step", k, x.step(k));
        }
        Check.due("full rise", 24, x.rise(1, 1000));
    }
}
