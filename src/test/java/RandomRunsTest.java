import java.util.Random;

/** Runs of calls, the same ones each time, on a bench and on the plain telling of the document. */
public final class RandomRunsTest {
    private static final int CALLS = 400;

    private final Random random;
    private final SlipBench x = new SlipBench();
    private final PlainBench plain = new PlainBench();
    private final int widest;
    private final int tallest;
    /** EARTHS that hardly hold, so that many LINES have the same SHARE. */
    private final boolean slick;
    private final StringBuilder told = new StringBuilder();

    private RandomRunsTest(int seed, int widest, int tallest) {
        random = new Random(seed);
        this.widest = widest;
        this.tallest = tallest;
        slick = seed % 4 == 1;
    }

    public static void main(String[] args) {
        for (int seed = 0; seed < 400 && Check.wrong() == 0; seed++) {
            new RandomRunsTest(seed, 3 + seed % 3, 3 + seed / 3 % 4).run();
        }
        for (int seed = 0; seed < 60 && Check.wrong() == 0; seed++) {
            new RandomRunsTest(1000 + seed, 8, 24).thinCover();
        }
        Check.end();
    }

    private void run() {
        for (int k = 0; k < CALLS && Check.wrong() == 0; k++) {
            call();
        }
        tellIfWrong();
    }

    private void tellIfWrong() {
        if (Check.wrong() > 0) {
            System.out.println(told);
        }
    }

    private int upTo(int n) {
        return random.nextInt(n + 1);
    }

    /** Mostly 0 .. n, now and then just outside, or far. */
    private int about(int n) {
        int r = random.nextInt(60);
        if (r == 0) {
            return -1;
        }
        if (r == 1) {
            return n + 1;
        }
        if (r == 2) {
            return random.nextBoolean() ? Integer.MAX_VALUE : Integer.MIN_VALUE;
        }
        return upTo(n);
    }

    private void same(String call, long want, long got) {
        told.append(call).append(" = ").append(got).append('\n');
        Check.due(call, want, got);
    }

    private void same(String call, boolean want, boolean got) {
        same(call, want ? 1 : 0, got ? 1 : 0);
    }

    private static String form(String name, int... v) {
        StringBuilder s = new StringBuilder(name).append('(');
        for (int k = 0; k < v.length; k++) {
            s.append(k > 0 ? ", " : "").append(v[k]);
        }
        return s.append(')').toString();
    }

    private void call() {
        int kind = random.nextInt(40);
        int w = plain.count(0);
        if (kind == 0 && random.nextInt(6) == 0) {
            int n = 2 + upTo(widest - 2);
            n = random.nextInt(6) == 0 ? (random.nextBoolean() ? 1 : 13) : n;
            same(form("ground", n), plain.ground(n), x.ground(n));
        } else if (kind <= 2) {
            int weight = random.nextBoolean() ? about(30) : 1 + upTo(3);
            int hold = slick ? random.nextInt(4) / 3 : random.nextBoolean() ? about(99) : upTo(2);
            int rub = slick ? random.nextInt(3) / 2 : about(9);
            boolean rock = random.nextInt(4) == 0;
            same(form("earth", weight, hold, rub, rock ? 1 : 0), plain.earth(weight, hold, rub, rock),
                    x.earth(weight, hold, rub, rock));
        } else if (kind <= 9) {
            lay(about(w - 1), about(plain.count(1)), about(3));
        } else if (kind <= 13) {
            set(about(w - 1), about(2));
        } else if (kind <= 15) {
            int column = about(w - 1);
            int what = about(3);
            same(form("look", column, what), plain.look(column, what), Check.look(x, column, what));
            int y = about(tallest);
            same(form("cell", column, y), plain.cell(column, y), x.cell(column, y));
        } else if (kind <= 24) {
            walkLine(w);
        } else if (kind <= 30) {
            worstWhole();
        } else if (kind <= 32) {
            rise();
        } else if (kind <= 34) {
            int place = about(w - 1);
            int what = about(3);
            int n = random.nextInt(3) == 0 ? about(what == 0 || what == 2 ? 24 : 999) : about(6);
            same(form("act", what, place, n), plain.act(what, place, n), x.act(what, place, n));
        } else if (kind <= 36) {
            int act = about(plain.count(2));
            same(form("perform", act), plain.perform(act), x.perform(act));
        } else if (kind <= 38) {
            order();
        } else {
            int what = about(3);
            same(form("count", what), plain.count(what), x.count(what));
        }
    }

    private void lay(int column, int earth, int n) {
        boolean high = column >= 0 && column < plain.count(0) && plain.look(column, 3) + 0L + n > tallest;
        if (high && n < 20) {
            return;
        }
        same(form("lay", column, earth, n), plain.lay(column, earth, n), x.lay(column, earth, n));
    }

    private void set(int column, int what) {
        int v;
        if (what == 0) {
            v = about(random.nextBoolean() ? 8 : 24);
        } else {
            v = about(random.nextBoolean() ? 20 : 999);
        }
        same(form("set", column, what, v), plain.set(column, what, v), x.set(column, what, v));
    }

    /** Rather often a LINE, as its ends are those of the GROUND. */
    private void walkLine(int w) {
        int a = about(w - 1);
        boolean known = a >= 0 && a < w;
        int y = known && random.nextInt(8) > 0 ? (int) plain.look(a, 3) : about(24);
        same(form("begin", a, y), plain.begin(a, y), x.begin(a, y));
        int parts = 1 + upTo(w);
        for (int k = 1; k <= parts; k++) {
            boolean last = k == parts && known && a + k - 1 < w;
            int right = last ? (int) plain.look(a + k - 1, 3) : about(Math.min(24, tallest));
            same(form("next", right), plain.next(right), x.next(right));
            same("line()", plain.line(), x.line());
        }
        for (int what = -1; what <= 4; what++) {
            same(form("share", what), plain.share(what), Check.share(x, what));
        }
    }

    private void worstWhole() {
        for (int what = -1; what <= 5; what++) {
            same(form("worst", what), plain.worst(what), x.worst(what));
        }
        for (int k = -1; k <= Math.max(0, plain.worst(4)); k++) {
            same(form("height", k), plain.height(k), x.height(k));
        }
    }

    /** Often just the WORST of now, where the edge lies. */
    private int[] ratio() {
        long p = plain.worst(0);
        long q = plain.worst(1);
        int r = random.nextInt(10);
        if (r == 0) {
            return new int[] {about(1000), about(1000)};
        }
        if (r < 7 && p >= 1 && p <= 1000 && q >= 1 && q <= 1000) {
            return new int[] {(int) p, (int) q};
        }
        return new int[] {1 + upTo(9), 1 + upTo(30)};
    }

    private void rise() {
        int[] r = ratio();
        same(form("rise", r[0], r[1]), plain.rise(r[0], r[1]), x.rise(r[0], r[1]));
    }

    private void order() {
        int[] r = ratio();
        same(form("order", r[0], r[1]), plain.order(r[0], r[1]), x.order(r[0], r[1]));
        for (int k = -1; k <= 6; k++) {
            same(form("step", k), plain.step(k), x.step(k));
        }
    }

    /** A wide GROUND of some cells of soil upon rock, so that its LINES can still be told one by one. */
    private void thinCover() {
        int w = 5 + upTo(widest - 5);
        same(form("ground", w), plain.ground(w), x.ground(w));
        same("earth rock", plain.earth(9, 0, 0, true), x.earth(9, 0, 0, true));
        for (int e = 1; e <= 3; e++) {
            int weight = 1 + upTo(4);
            int hold = upTo(2);
            int rub = upTo(3);
            same("earth", plain.earth(weight, hold, rub, false), x.earth(weight, hold, rub, false));
        }
        int base = 4 + upTo(16);
        for (int i = 0; i < w; i++) {
            base = Math.max(1, Math.min(20, base + upTo(4) - 2));
            lay(i, 0, base);
            lay(i, 1 + upTo(2), 1 + upTo(1));
            if (random.nextInt(3) == 0) {
                set(i, 1);
            }
            if (random.nextInt(3) == 0) {
                set(i, 0);
            }
        }
        worstWhole();
        rise();
        same("act", plain.act(1, 0, 3), x.act(1, 0, 3));
        same("act", plain.act(3, 1, 3), x.act(3, 1, 3));
        same("act", plain.act(0, 2, base), x.act(0, 2, base));
        order();
        tellIfWrong();
    }
}
