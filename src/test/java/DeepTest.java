import java.util.Arrays;
import java.util.Random;

/**
 * The WORST of wide and deep GROUNDS. Here the least HOLDS are kept for every sum of DRIVES that LINES
 * can have, which needs no rule of search: the WORST is the least of them all.
 */
public final class DeepTest {
    private static final int NO = Integer.MAX_VALUE;

    private final Random random;
    private final SlipBench x = new SlipBench();
    private int w;
    private int unit;
    private int span;
    private int[][] earths;
    private int[][] cells;
    private int[] tall;
    private int[] water;
    private int[] load;
    private int[] nails;

    private DeepTest(int seed) {
        random = new Random(seed);
    }

    public static void main(String[] args) {
        for (int seed = 0; seed < 40 && Check.wrong() == 0; seed++) {
            DeepTest t = new DeepTest(seed);
            t.make(4 + seed % 6, 24, 1, 4, 20);
            t.compare(seed);
        }
        for (int seed = 40; seed < 48 && Check.wrong() == 0; seed++) {
            DeepTest t = new DeepTest(seed);
            t.make(12, 24, 27, 1, 37);
            t.compare(seed);
        }
        for (int seed = 48; seed < 60 && Check.wrong() == 0; seed++) {
            DeepTest t = new DeepTest(seed);
            t.make(12, 24, 1, 2, 3);
            t.compare(seed);
        }
        Check.end();
    }

    private int upTo(int n) {
        return random.nextInt(n + 1);
    }

    private void make(int width, int highest, int u, int weights, int loads) {
        w = width;
        unit = u;
        boolean strong = random.nextBoolean();
        earths = new int[5][];
        for (int e = 0; e < 5; e++) {
            int hold = strong ? upTo(99) : upTo(3);
            earths[e] = new int[] {u * (1 + upTo(weights - 1)), hold, upTo(9), e == 4 ? 1 : 0};
            Check.due("earth", e, x.earth(earths[e][0], hold, earths[e][2], e == 4));
        }
        Check.due("ground", true, x.ground(w));
        cells = new int[w][24];
        tall = new int[w];
        water = new int[w];
        load = new int[w];
        nails = new int[w];
        int most = 0;
        int high = highest;
        for (int i = 0; i < w; i++) {
            fillColumn(i, high, loads);
            high = Math.max(2, Math.min(24, high + upTo(5) - 3));
            int press = load[i];
            for (int y = 0; y < tall[i]; y++) {
                press += earths[cells[i][y]][0];
            }
            most += 4 * press / unit;
        }
        span = most;
    }

    private void fillColumn(int i, int high, int loads) {
        while (tall[i] < high) {
            int e = random.nextInt(12) == 0 && tall[i] < high / 2 ? 4 : upTo(3);
            int n = Math.min(high - tall[i], 1 + upTo(5));
            for (int k = 0; k < n; k++) {
                cells[i][tall[i]++] = e;
            }
            Check.due("lay", tall[i], x.lay(i, e, n));
        }
        water[i] = random.nextInt(3) == 0 ? upTo(24) : 0;
        load[i] = random.nextInt(3) == 0 ? unit * upTo(loads) : 0;
        nails[i] = random.nextInt(5) == 0 ? upTo(30) : 0;
        Check.due("set water", true, x.set(i, 0, water[i]));
        Check.due("set load", true, x.set(i, 1, load[i]));
        Check.due("set nails", true, x.set(i, 2, nails[i]));
    }

    private int press(int i, int high) {
        int sum = load[i];
        for (int y = high; y < tall[i]; y++) {
            sum += earths[cells[i][y]][0];
        }
        return sum;
    }

    private int holds(int i, int left, int right) {
        int low = Math.min(left, right);
        int high = Math.max(left, right);
        int drop = left - right;
        if (drop > 4 || drop < -4 || high > tall[i] || low >= tall[i] || earths[cells[i][low]][3] == 1) {
            return NO;
        }
        int q = 1 + drop * drop;
        int[] earth = earths[cells[i][low]];
        int above = press(i, high) - 10 * q * Math.max(0, water[i] - high);
        return 10 * earth[1] * q + earth[2] * Math.max(0, above) + 10 * nails[i];
    }

    /** In units of 10 times the unit of all weights. */
    private int drives(int i, int left, int right) {
        return press(i, Math.max(left, right)) / unit * (left - right);
    }

    /** From each height at each i on to b: the least HOLDS for each sum of DRIVES (span is that of 0). */
    private int[][][] restsTo(int b) {
        int[][][] rests = new int[b + 1][25][];
        rests[b][tall[b - 1]] = new int[2 * span + 1];
        Arrays.fill(rests[b][tall[b - 1]], NO);
        rests[b][tall[b - 1]][span] = 0;
        for (int i = b - 1; i >= 0; i--) {
            for (int left = 0; left <= tall[i]; left++) {
                for (int right = 0; right <= tall[i]; right++) {
                    int held = holds(i, left, right);
                    if (held != NO && rests[i + 1][right] != null) {
                        rests[i][left] = merge(rests[i][left], rests[i + 1][right], held, drives(i, left, right));
                    }
                }
            }
        }
        return rests;
    }

    private int[] merge(int[] old, int[] rest, int held, int driven) {
        int[] row = old;
        if (row == null) {
            row = new int[2 * span + 1];
            Arrays.fill(row, NO);
        }
        for (int d = 0; d <= 2 * span; d++) {
            if (rest[d] != NO && rest[d] + held < row[d + driven]) {
                row[d + driven] = rest[d] + held;
            }
        }
        return row;
    }

    private void compare(int seed) {
        String name = "seed " + seed + " ";
        long upper = -1;
        long lower = 1;
        int a = -1;
        int b = -1;
        for (int end = 1; end <= w; end++) {
            int[][][] rests = restsTo(end);
            for (int start = 0; start < end; start++) {
                int[] row = rests[start][tall[start]];
                for (int d = span + 1; row != null && d <= 2 * span; d++) {
                    long by = 10L * unit * (d - span);
                    if (row[d] != NO && (a < 0 || row[d] * lower < upper * by
                            || row[d] * lower == upper * by && start < a)) {
                        upper = row[d];
                        lower = by;
                        a = start;
                        b = end;
                    }
                }
            }
        }
        long common = a < 0 ? 1 : common(upper, lower);
        Check.due(name + "worst(0)", a < 0 ? -1 : upper / common, x.worst(0));
        Check.due(name + "worst(1)", a < 0 ? -1 : lower / common, x.worst(1));
        Check.due(name + "worst(2)", a, x.worst(2));
        Check.due(name + "worst(3)", b, x.worst(3));
        if (a >= 0) {
            compareHeights(name, a, b, upper, lower);
            compareEdge(name, upper / common, lower / common);
        }
    }

    private void compareHeights(String name, int a, int b, long upper, long lower) {
        int[][][] rests = restsTo(b);
        long held = 0;
        long driven = 0;
        int y = tall[a];
        Check.due(name + "begin", true, x.begin(a, y));
        Check.due(name + "height(0)", y, x.height(0));
        for (int i = a; i < b; i++) {
            int right = 0;
            while (!leads(rests[i + 1][right], i, y, right, new long[] {held, driven, upper, lower})) {
                right++;
            }
            held += holds(i, y, right);
            driven += drives(i, y, right);
            y = right;
            Check.due(name + "height " + (i + 1 - a), y, x.height(i + 1 - a));
            Check.due(name + "next", i + 2 - a, x.next(y));
        }
        Check.due(name + "worst(4)", b - a + 1, x.worst(4));
        Check.due(name + "line()", 1, x.line());
        Check.due(name + "share(0)", held, Check.share(x, 0));
        Check.due(name + "share(1)", 10 * unit * driven, Check.share(x, 1));
        Check.due(name + "share(2)", x.worst(0), Check.share(x, 2));
        Check.due(name + "share(3)", x.worst(1), Check.share(x, 3));
    }

    /** so: HOLDS and DRIVES so far, and the WORST's two numbers. */
    private boolean leads(int[] rest, int i, int left, int right, long[] so) {
        if (rest == null || holds(i, left, right) == NO) {
            return false;
        }
        for (int d = 0; d <= 2 * span; d++) {
            long by = 10L * unit * (so[1] + drives(i, left, right) + d - span);
            if (rest[d] != NO && by > 0 && (so[0] + holds(i, left, right) + rest[d]) * so[3] == so[2] * by) {
                return true;
            }
        }
        return false;
    }

    private void compareEdge(String name, long upper, long lower) {
        if (upper >= 1 && upper < 1000 && lower <= 1000) {
            Check.due(name + "rise at the worst", true, x.rise((int) upper, (int) lower) >= 0);
            Check.due(name + "rise just above it", -1, x.rise((int) upper + 1, (int) lower));
        }
    }

    private static long common(long a, long b) {
        return b == 0 ? a : common(b, a % b);
    }
}
