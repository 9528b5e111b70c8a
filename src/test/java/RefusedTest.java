import java.util.ArrayList;
import java.util.List;
import java.util.function.Supplier;
import java.util.function.ToLongFunction;

/**
 * Refused calls: each is made on one of two benches that were made alike, and all that can be asked
 * afterwards must be answered alike by both.
 */
public final class RefusedTest {
    private static final long NONE = SlipBench.NONE;
    private static final long NO = 0;
    private static final long NO_SUCH = Check.NO_SUCH_ELEMENT;
    private static final long BOUNDS = Check.OUT_OF_BOUNDS;
    private static final int LEAST = Integer.MIN_VALUE;
    private static final int MOST = Integer.MAX_VALUE;

    private record Refused(String name, long due, ToLongFunction<SlipBench> call) {
    }

    public static void main(String[] args) {
        everywhere(RefusedTest::fresh, "fresh", 2, 0, 0);
        everywhere(RefusedTest::midway, "midway", 3, 2, 4);
        everywhere(RefusedTest::full, "full", 12, 6, 6);
        ofAFreshBench();
        ofAFullBench();
        ofALineAtItsEnd();
        ofAColumnNearlyFull();
        ofALineWithoutShare();
        beginDropsTheLine();
        refusedOrderLeavesTheLatest();
        Check.end();
    }

    private static SlipBench fresh() {
        return new SlipBench();
    }

    /** Something of all, and a LINE that goes two COLUMNS far and can go on. */
    private static SlipBench midway() {
        SlipBench x = new SlipBench();
        x.ground(3);
        x.earth(10, 1, 2, false);
        x.earth(7, 0, 0, true);
        x.lay(0, 1, 1);
        x.lay(0, 0, 5);
        x.lay(1, 0, 4);
        x.lay(2, 0, 3);
        x.set(0, 1, 100);
        x.set(1, 0, 3);
        x.set(2, 2, 9);
        x.act(0, 0, 5);
        x.act(1, 1, 20);
        x.act(2, 1, 1);
        x.act(3, 2, 30);
        x.order(1, 200);
        x.begin(0, 6);
        x.next(3);
        x.next(4);
        return x;
    }

    /** As much of all as there can be, and a LINE that is at W. */
    private static SlipBench full() {
        SlipBench x = new SlipBench();
        x.ground(12);
        for (int e = 0; e < 6; e++) {
            x.earth(30 - e, 99 - 9 * e, 9 - e, false);
        }
        for (int i = 0; i < 12; i++) {
            x.lay(i, i % 6, 20);
            x.lay(i, 5 - i % 6, 4);
            x.set(i, 0, 24);
            x.set(i, 1, 999 - i);
            x.set(i, 2, 999);
        }
        for (int k = 0; k < 6; k++) {
            x.act(k % 4, 2 * k, 24);
        }
        x.order(1, 1000);
        x.begin(0, 24);
        int[] ys = {20, 16, 12, 8, 4, 0, 4, 8, 12, 16, 20, 24};
        for (int y : ys) {
            x.next(y);
        }
        return x;
    }

    /** What both benches tell; the calls that change something come last. */
    private static List<Long> all(SlipBench x) {
        List<Long> told = new ArrayList<>();
        told.add((long) x.line());
        for (int what = 0; what < 4; what++) {
            told.add(Check.share(x, what));
        }
        for (int k = 0; k < 6; k++) {
            told.add((long) x.step(k));
        }
        theGround(x, told);
        int[][] ratios = {{1, 1000}, {1, 200}, {1, 3}, {1000, 1}};
        for (int[] r : ratios) {
            told.add((long) x.rise(r[0], r[1]));
            told.add((long) x.order(r[0], r[1]));
            told.add((long) x.step(0));
        }
        told.add((long) x.next(3));
        told.add((long) x.line());
        told.add(Check.share(x, 0));
        for (int act = 0; act < 6; act++) {
            told.add(x.perform(act) ? 1L : 0L);
        }
        theGround(x, told);
        told.add((long) x.earth(3, 3, 3, false));
        told.add((long) x.lay(1, 0, 1));
        told.add((long) x.act(1, 0, 1));
        return told;
    }

    private static void theGround(SlipBench x, List<Long> told) {
        int w = x.count(0);
        for (int what = 0; what < 4; what++) {
            told.add((long) x.count(what));
            for (int i = 0; i < w; i++) {
                told.add(Check.look(x, i, what));
            }
        }
        for (int i = 0; i < w; i++) {
            told.add((long) x.cell(i, 0));
            told.add((long) x.cell(i, 5));
            told.add((long) x.cell(i, 23));
        }
        for (int what = 0; what < 5; what++) {
            told.add(x.worst(what));
        }
        for (int k = 0; k < w + 1; k++) {
            told.add((long) x.height(k));
        }
    }

    private static void refuse(Supplier<SlipBench> made, String where, Refused r) {
        SlipBench asked = made.get();
        String name = where + " " + r.name;
        Check.due(name, r.due, r.call.applyAsLong(asked));
        List<Long> want = all(made.get());
        List<Long> got = all(asked);
        Check.due(name + ": as many answers afterwards", want.size(), got.size());
        for (int k = 0; k < Math.min(want.size(), got.size()); k++) {
            Check.due(name + ": answer " + k + " afterwards", want.get(k), got.get(k));
        }
    }

    private static void add(List<Refused> list, String name, long due, ToLongFunction<SlipBench> call) {
        list.add(new Refused(name, due, call));
    }

    private static long bit(boolean b) {
        return b ? 1 : 0;
    }

    /** Values just beyond least .. most, and as far beyond as an int goes. */
    private static int[] beyond(int least, int most) {
        return new int[] {least - 1, most + 1, LEAST, MOST};
    }

    /** What is refused on every bench of so many COLUMNS, EARTHS and ACTS. */
    private static void everywhere(Supplier<SlipBench> made, String where, int w, int earths, int acts) {
        List<Refused> list = new ArrayList<>();
        groundAndEarths(list);
        columns(list, w, earths);
        looks(list, w);
        lines(list);
        ratios(list);
        actsOf(list, w, acts);
        for (Refused r : list) {
            refuse(made, where, r);
        }
    }

    private static void groundAndEarths(List<Refused> list) {
        for (int v : beyond(2, 12)) {
            add(list, "ground(" + v + ")", NO, x -> bit(x.ground(v)));
        }
        add(list, "ground(0)", NO, x -> bit(x.ground(0)));
        add(list, "ground(-2)", NO, x -> bit(x.ground(-2)));
        for (int v : beyond(1, 30)) {
            add(list, "earth weight " + v, NONE, x -> x.earth(v, 0, 0, false));
            add(list, "rock's weight " + v, NONE, x -> x.earth(v, 0, 0, true));
        }
        for (int v : beyond(0, 99)) {
            add(list, "earth hold " + v, NONE, x -> x.earth(1, v, 0, false));
        }
        for (int v : beyond(0, 9)) {
            add(list, "earth rub " + v, NONE, x -> x.earth(1, 0, v, false));
        }
    }

    private static void columns(List<Refused> list, int w, int earths) {
        for (int v : beyond(0, w - 1)) {
            add(list, "lay column " + v, NONE, x -> x.lay(v, 0, 1));
            for (int what = 0; what < 3; what++) {
                int which = what;
                add(list, "set column " + v + " what " + what, NO, x -> bit(x.set(v, which, 1)));
            }
        }
        for (int v : beyond(0, earths - 1)) {
            add(list, "lay earth " + v, NONE, x -> x.lay(0, v, 1));
        }
        int[] numbers = {0, -1, 25, LEAST, MOST, MOST - 23};
        for (int v : numbers) {
            add(list, "lay " + v, NONE, x -> x.lay(0, 0, v));
        }
        for (int v : beyond(0, 2)) {
            add(list, "set what " + v, NO, x -> bit(x.set(0, v, 1)));
        }
        for (int v : beyond(0, 24)) {
            add(list, "set water " + v, NO, x -> bit(x.set(1, 0, v)));
        }
        for (int v : beyond(0, 999)) {
            add(list, "set load " + v, NO, x -> bit(x.set(1, 1, v)));
            add(list, "set nails " + v, NO, x -> bit(x.set(1, 2, v)));
        }
    }

    private static void looks(List<Refused> list, int w) {
        for (int v : beyond(0, w - 1)) {
            add(list, "look column " + v, BOUNDS, x -> Check.look(x, v, 0));
            add(list, "cell column " + v, NONE, x -> x.cell(v, 0));
        }
        for (int v : beyond(0, 3)) {
            add(list, "look what " + v, NO_SUCH, x -> Check.look(x, 1, v));
            add(list, "count " + v, NONE, x -> x.count(v));
            add(list, "share " + v, NO_SUCH, x -> Check.share(x, v));
        }
        for (int v : beyond(0, 23)) {
            add(list, "cell y " + v, NONE, x -> x.cell(0, v));
        }
        for (int v : beyond(0, 4)) {
            add(list, "worst " + v, NONE, x -> x.worst(v));
        }
        for (int v : beyond(0, w)) {
            add(list, "height " + v, NONE, x -> x.height(v));
        }
    }

    private static void lines(List<Refused> list) {
        for (int v : beyond(0, 24)) {
            add(list, "next(" + v + ")", NONE, x -> x.next(v));
        }
    }

    private static void ratios(List<Refused> list) {
        for (int v : beyond(1, 1000)) {
            add(list, "rise p " + v, NONE, x -> x.rise(v, 1));
            add(list, "rise q " + v, NONE, x -> x.rise(1, v));
            add(list, "rise p, q " + v, NONE, x -> x.rise(v, v));
            add(list, "order p " + v, NONE, x -> x.order(v, 1));
            add(list, "order q " + v, NONE, x -> x.order(1, v));
            add(list, "order p, q " + v, NONE, x -> x.order(v, v));
        }
    }

    private static void actsOf(List<Refused> list, int w, int acts) {
        int[] most = {24, 999, 24, 999};
        for (int k = 0; k < 4; k++) {
            int kind = k;
            for (int v : beyond(0, most[kind])) {
                add(list, "act " + kind + " n " + v, NONE, x -> x.act(kind, 0, v));
            }
            for (int v : beyond(0, w - 1)) {
                add(list, "act " + kind + " column " + v, NONE, x -> x.act(kind, v, 1));
            }
        }
        for (int v : beyond(0, 3)) {
            add(list, "act kind " + v, NONE, x -> x.act(v, 0, 1));
        }
        for (int v : beyond(0, acts - 1)) {
            add(list, "perform " + v, NO, x -> bit(x.perform(v)));
            add(list, "step " + v, NONE, x -> x.step(v));
        }
    }

    private static void ofAFreshBench() {
        List<Refused> list = new ArrayList<>();
        add(list, "lay without earths", NONE, x -> x.lay(0, 0, 1));
        add(list, "cell of an empty column", NONE, x -> x.cell(0, 0));
        add(list, "next without a line", NONE, x -> x.next(0));
        add(list, "share without a line", NO_SUCH, x -> Check.share(x, 0));
        add(list, "worst without lines", NONE, x -> x.worst(0));
        add(list, "height without lines", NONE, x -> x.height(0));
        add(list, "perform without acts", NO, x -> bit(x.perform(0)));
        add(list, "step without an order", NONE, x -> x.step(0));
        for (Refused r : list) {
            refuse(RefusedTest::fresh, "fresh", r);
        }
    }

    private static void ofAFullBench() {
        List<Refused> list = new ArrayList<>();
        add(list, "a seventh earth", NONE, x -> x.earth(1, 0, 0, false));
        add(list, "a seventh earth of rock", NONE, x -> x.earth(1, 0, 0, true));
        add(list, "a seventh act", NONE, x -> x.act(0, 0, 0));
        for (int i = 0; i < 12; i++) {
            int column = i;
            add(list, "a cell more upon " + i, NONE, x -> x.lay(column, 0, 1));
        }
        add(list, "next at W", NONE, x -> x.next(0));
        add(list, "next at W, as it ends", NONE, x -> x.next(24));
        for (Refused r : list) {
            refuse(RefusedTest::full, "full", r);
        }
    }

    private static void ofALineAtItsEnd() {
        Supplier<SlipBench> made = () -> {
            SlipBench x = midway();
            x.begin(2, 3);
            x.next(3);
            return x;
        };
        refuse(made, "midway at W", new Refused("next(3)", NONE, x -> x.next(3)));
        refuse(made, "midway at W", new Refused("share of no line", NO_SUCH, x -> Check.share(x, 0)));
    }

    private static void ofAColumnNearlyFull() {
        Supplier<SlipBench> high = () -> {
            SlipBench x = midway();
            x.lay(1, 0, 19);
            return x;
        };
        refuse(high, "midway, 1 cell below the most", new Refused("lay 2", NONE, x -> x.lay(1, 0, 2)));
    }

    private static void ofALineWithoutShare() {
        Supplier<SlipBench> made = () -> {
            SlipBench x = midway();
            x.ground(2);
            x.lay(0, 0, 3);
            x.lay(1, 0, 3);
            x.begin(0, 3);
            x.next(0);
            x.next(3);
            return x;
        };
        refuse(made, "level", new Refused("share's upper", NO_SUCH, x -> Check.share(x, 2)));
        refuse(made, "level", new Refused("share's lower", NO_SUCH, x -> Check.share(x, 3)));
    }

    /** Of all refused calls this one leaves something: no LINE; the rest is as it was. */
    private static void beginDropsTheLine() {
        int[][] wrong = {{-1, 0}, {3, 0}, {LEAST, 0}, {MOST, 0}, {0, -1}, {0, 25}, {0, LEAST}, {0, MOST}, {3, 25}};
        for (int[] v : wrong) {
            SlipBench asked = midway();
            SlipBench bare = midway();
            String name = "begin(" + v[0] + ", " + v[1] + ")";
            Check.due("midway: a line before", 1, asked.line());
            Check.due(name, false, asked.begin(v[0], v[1]));
            Check.due(name + ": no line then", 0, asked.line());
            Check.due(name + ": no line then", NO_SUCH, Check.share(asked, 0));
            Check.due(name + ": none is begun", NONE, asked.next(3));
            List<Long> want = new ArrayList<>();
            List<Long> got = new ArrayList<>();
            theGround(bare, want);
            theGround(asked, got);
            Check.due(name + ": the rest is as it was", true, want.equals(got));
            Check.due(name + ": a new one can be begun", true, asked.begin(2, 3));
            Check.due(name + ": with one height", 2, asked.next(3));
        }
    }

    private static void refusedOrderLeavesTheLatest() {
        SlipBench x = midway();
        int first = x.step(0);
        Check.due("an order was told", true, first >= 0);
        Check.due("none", -2, x.order(1000, 1));
        Check.due("none: the latest stays", first, x.step(0));
        Check.due("no such p", NONE, x.order(0, 1));
        Check.due("no such p: the latest stays", first, x.step(0));
    }
}
