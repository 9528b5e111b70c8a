import java.util.ArrayList;
import java.util.List;

/**
 * The document told again in the plainest way, for tests to compare with: every LINE is walked, every
 * order of ACTS is tried, nothing is kept from call to call. Only small GROUNDS can be asked.
 */
final class PlainBench {
    private static final class Pillar {
        final List<Integer> cells = new ArrayList<>();
        int water;
        int load;
        int nails;

        Pillar twin() {
            Pillar t = new Pillar();
            t.cells.addAll(cells);
            t.water = water;
            t.load = load;
            t.nails = nails;
            return t;
        }
    }

    private final List<int[]> earths = new ArrayList<>();
    private List<Pillar> pillars = new ArrayList<>();
    private final List<int[]> acts = new ArrayList<>();
    private List<Integer> latestOrder = new ArrayList<>();
    private List<Integer> begun = null;
    private int begunAt = 0;

    private long bestHolds;
    private long bestDrives;
    private int bestFrom;
    private List<Integer> best;

    PlainBench() {
        pillars.add(new Pillar());
        pillars.add(new Pillar());
    }

    boolean ground(int w) {
        if (w < 2 || w > 12) {
            return false;
        }
        pillars.clear();
        for (int i = 0; i < w; i++) {
            pillars.add(new Pillar());
        }
        acts.clear();
        begun = null;
        return true;
    }

    int earth(int weight, int hold, int rub, boolean rock) {
        boolean can = weight >= 1 && weight <= 30;
        if (!rock) {
            can = can && hold >= 0 && hold <= 99 && rub >= 0 && rub <= 9;
        }
        if (!can || earths.size() == 6) {
            return -1;
        }
        earths.add(new int[] {weight, hold, rub, rock ? 1 : 0});
        return earths.size() - 1;
    }

    private boolean isColumn(int c) {
        return c >= 0 && c < pillars.size();
    }

    int lay(int column, int earth, int n) {
        if (!isColumn(column) || earth < 0 || earth >= earths.size() || n < 1) {
            return -1;
        }
        List<Integer> cells = pillars.get(column).cells;
        if ((long) cells.size() + n > 24) {
            return -1;
        }
        for (int k = 0; k < n; k++) {
            cells.add(earth);
        }
        return cells.size();
    }

    boolean set(int column, int what, int v) {
        if (!isColumn(column) || what < 0 || what > 2 || v < 0 || v > (what == 0 ? 24 : 999)) {
            return false;
        }
        Pillar c = pillars.get(column);
        if (what == 0) {
            c.water = v;
        } else if (what == 1) {
            c.load = v;
        } else {
            c.nails = v;
        }
        return true;
    }

    long look(int column, int what) {
        if (!isColumn(column)) {
            return Check.OUT_OF_BOUNDS;
        }
        Pillar c = pillars.get(column);
        switch (what) {
            case 0: return c.water;
            case 1: return c.load;
            case 2: return c.nails;
            case 3: return c.cells.size();
            default: return Check.NO_SUCH_ELEMENT;
        }
    }

    int cell(int column, int y) {
        if (!isColumn(column) || y < 0 || y >= pillars.get(column).cells.size()) {
            return -1;
        }
        return pillars.get(column).cells.get(y);
    }

    boolean begin(int a, int y) {
        begun = null;
        if (!isColumn(a) || y < 0 || y > 24) {
            return false;
        }
        begun = new ArrayList<>();
        begun.add(y);
        begunAt = a;
        return true;
    }

    int next(int y) {
        if (begun == null || y < 0 || y > 24 || begunAt + begun.size() - 1 == pillars.size()) {
            return -1;
        }
        begun.add(y);
        return begun.size();
    }

    int line() {
        return begun != null && isLine(begunAt, begun) ? 1 : 0;
    }

    long share(int what) {
        if (line() == 0 || what < 0 || what > 3) {
            return Check.NO_SUCH_ELEMENT;
        }
        long[] sums = sums(begunAt, begun);
        if (what < 2) {
            return sums[what];
        }
        if (sums[1] <= 0) {
            return Check.NO_SUCH_ELEMENT;
        }
        return sums[what - 2] / common(sums[0], sums[1]);
    }

    long worst(int what) {
        if (!findWorst()) {
            return -1;
        }
        switch (what) {
            case 0: return bestHolds / common(bestHolds, bestDrives);
            case 1: return bestDrives / common(bestHolds, bestDrives);
            case 2: return bestFrom;
            case 3: return bestFrom + best.size() - 1;
            case 4: return best.size();
            default: return -1;
        }
    }

    int height(int k) {
        if (!findWorst() || k < 0 || k >= best.size()) {
            return -1;
        }
        return best.get(k);
    }

    int rise(int p, int q) {
        if (p < 1 || p > 1000 || q < 1 || q > 1000) {
            return -1;
        }
        List<Pillar> there = pillars;
        int found = -1;
        for (int n = 0; n <= 24; n++) {
            pillars = twins(there);
            for (Pillar c : pillars) {
                c.water = Math.min(24, c.water + n);
            }
            if (notBelow(p, q)) {
                found = n;
            }
        }
        pillars = there;
        return found;
    }

    int act(int kind, int column, int n) {
        if (kind < 0 || kind > 3 || !isColumn(column) || n < 0 || acts.size() == 6) {
            return -1;
        }
        if (n > (kind == 0 || kind == 2 ? 24 : 999)) {
            return -1;
        }
        acts.add(new int[] {kind, column, n});
        return acts.size() - 1;
    }

    boolean perform(int act) {
        if (act < 0 || act >= acts.size()) {
            return false;
        }
        int[] told = acts.get(act);
        Pillar c = pillars.get(told[1]);
        if (told[0] == 0) {
            while (c.cells.size() > told[2]) {
                c.cells.remove(c.cells.size() - 1);
            }
        } else if (told[0] == 1) {
            c.nails = Math.min(999, c.nails + told[2]);
        } else if (told[0] == 2) {
            c.water = Math.min(c.water, told[2]);
        } else {
            c.load = Math.min(999, c.load + told[2]);
        }
        return true;
    }

    int order(int p, int q) {
        if (p < 1 || p > 1000 || q < 1 || q > 1000) {
            return -1;
        }
        List<Integer> done = new ArrayList<>();
        if (!tryOrders(done, p, q)) {
            return -2;
        }
        latestOrder = done;
        return done.size();
    }

    private boolean tryOrders(List<Integer> done, int p, int q) {
        if (done.size() == acts.size()) {
            return true;
        }
        List<Pillar> there = pillars;
        for (int act = 0; act < acts.size(); act++) {
            if (done.contains(act)) {
                continue;
            }
            pillars = twins(there);
            perform(act);
            done.add(act);
            boolean found = notBelow(p, q) && tryOrders(done, p, q);
            pillars = there;
            if (found) {
                return true;
            }
            done.remove(done.size() - 1);
        }
        return false;
    }

    int step(int k) {
        return k >= 0 && k < latestOrder.size() ? latestOrder.get(k) : -1;
    }

    int count(int what) {
        switch (what) {
            case 0: return pillars.size();
            case 1: return earths.size();
            case 2: return acts.size();
            case 3:
                int sum = 0;
                for (Pillar c : pillars) {
                    sum += c.cells.size();
                }
                return sum;
            default: return -1;
        }
    }

    private static List<Pillar> twins(List<Pillar> of) {
        List<Pillar> made = new ArrayList<>();
        for (Pillar c : of) {
            made.add(c.twin());
        }
        return made;
    }

    private static long common(long a, long b) {
        return b == 0 ? a : common(b, a % b);
    }

    private boolean notBelow(int p, int q) {
        return !findWorst() || bestHolds * q >= bestDrives * p;
    }

    private boolean isLine(int a, List<Integer> ys) {
        int b = a + ys.size() - 1;
        if (b <= a || b > pillars.size()) {
            return false;
        }
        if (ys.get(0) != pillars.get(a).cells.size() || ys.get(b - a) != pillars.get(b - 1).cells.size()) {
            return false;
        }
        for (int i = a; i < b; i++) {
            if (!passes(i, ys.get(i - a), ys.get(i - a + 1))) {
                return false;
            }
        }
        return true;
    }

    private boolean passes(int i, int left, int right) {
        List<Integer> cells = pillars.get(i).cells;
        int low = Math.min(left, right);
        return Math.abs(left - right) <= 4 && left <= cells.size() && right <= cells.size()
                && low < cells.size() && earths.get(cells.get(low))[3] == 0;
    }

    private long[] sums(int a, List<Integer> ys) {
        long holds = 0;
        long drives = 0;
        for (int k = 0; k + 1 < ys.size(); k++) {
            Pillar c = pillars.get(a + k);
            int high = Math.max(ys.get(k), ys.get(k + 1));
            int low = Math.min(ys.get(k), ys.get(k + 1));
            int drop = ys.get(k) - ys.get(k + 1);
            int q = 1 + drop * drop;
            long press = c.load;
            for (int y = high; y < c.cells.size(); y++) {
                press += earths.get(c.cells.get(y))[0];
            }
            long lift = c.water > high ? 10L * q * (c.water - high) : 0;
            int[] earth = earths.get(c.cells.get(low));
            holds += 10L * earth[1] * q;
            holds += press > lift ? earth[2] * (press - lift) : 0;
            holds += 10L * c.nails;
            drives += 10L * press * drop;
        }
        return new long[] {holds, drives};
    }

    private boolean findWorst() {
        best = null;
        for (int a = 0; a < pillars.size(); a++) {
            for (int b = a + 1; b <= pillars.size(); b++) {
                List<Integer> ys = new ArrayList<>();
                ys.add(pillars.get(a).cells.size());
                walk(a, b, ys);
            }
        }
        return best != null;
    }

    private void walk(int a, int b, List<Integer> ys) {
        int at = a + ys.size() - 1;
        if (at == b) {
            consider(a, ys);
            return;
        }
        int left = ys.get(ys.size() - 1);
        for (int right = Math.max(0, left - 4); right <= left + 4; right++) {
            if (passes(at, left, right)) {
                ys.add(right);
                walk(a, b, ys);
                ys.remove(ys.size() - 1);
            }
        }
    }

    private void consider(int a, List<Integer> ys) {
        if (!isLine(a, ys)) {
            return;
        }
        long[] sums = sums(a, ys);
        if (sums[1] > 0 && (best == null || sums[0] * bestDrives < bestHolds * sums[1])) {
            best = new ArrayList<>(ys);
            bestFrom = a;
            bestHolds = sums[0];
            bestDrives = sums[1];
        }
    }
}
