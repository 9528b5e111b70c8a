/** The bounds of promises 15 to 19, and those of a whole run; one method a sentence. */
public final class ActEdgesTest {
    private static final int NONE = SlipBench.NONE;
    private static final int NO_ORDER = -2;
    private static final int LEAST = Integer.MIN_VALUE;
    private static final int MOST = Integer.MAX_VALUE;
    private static final int DIG = 0;
    private static final int NAIL = 1;
    private static final int DRAIN = 2;
    private static final int LOAD = 3;

    public static void main(String[] args) {
        sixActs();
        actKinds();
        actColumns();
        actNumbers();
        digHasAtMost();
        nailAndLoadUpTo999();
        drainIsAtMost();
        performAgain();
        performedLineAndWorst();
        actsGoWithTheGround();
        orderOfAnyNumber();
        orderBehindEachNotBelow();
        orderFirstByNumbers();
        orderActsUponWhatIsThere();
        orderOfNoShare();
        orderNoneAtTheEnd();
        orderNoneBetween();
        stepOfTheLatest();
        countOfEach();
        fullRun();
        benchesApart();
        Check.end();
    }

    /** Two COLUMNS of 4 and 4 CELLS that neither hold nor rub: only NAILS hold, only LOADS drive. */
    private static SlipBench slick() {
        SlipBench x = new SlipBench();
        x.earth(10, 0, 0, false);
        x.lay(0, 0, 4);
        x.lay(1, 0, 4);
        return x;
    }

    private static void sixActs() {
        SlipBench x = new SlipBench();
        for (int k = 0; k < 6; k++) {
            Check.due("not yet", false, x.perform(k));
            Check.due("act", k, x.act(k % 4, k % 2, k));
            Check.due("now", true, x.perform(k));
            Check.due("acts", k + 1, x.count(2));
        }
        for (int kind = 0; kind < 4; kind++) {
            Check.due("a seventh", NONE, x.act(kind, 0, 0));
        }
        Check.due("none of it to do", false, x.perform(6));
        Check.due("six", 6, x.count(2));
    }

    private static void actKinds() {
        SlipBench x = new SlipBench();
        int[] bad = {LEAST, -2, -1, 4, 5, MOST};
        for (int kind : bad) {
            Check.due("kind " + kind, NONE, x.act(kind, 0, 0));
            Check.due("none", 0, x.count(2));
        }
        for (int kind = 0; kind <= 3; kind++) {
            Check.due("kind " + kind, kind, x.act(kind, 0, 0));
        }
    }

    private static void actColumns() {
        for (int w = 2; w <= 12; w++) {
            SlipBench x = new SlipBench();
            x.ground(w);
            for (int kind = 0; kind < 4; kind++) {
                int[] bad = {LEAST, -1, w, w + 1, MOST};
                for (int column : bad) {
                    Check.due("column " + column + " of " + w, NONE, x.act(kind, column, 1));
                }
            }
            Check.due("the first", 0, x.act(NAIL, 0, 5));
            Check.due("the last", 1, x.act(LOAD, w - 1, 6));
            x.perform(0);
            x.perform(1);
            Check.due("the first is nailed", 5, x.look(0, 2));
            Check.due("the last is loaded", 6, x.look(w - 1, 1));
        }
    }

    private static void actNumbers() {
        int[] most = {24, 999, 24, 999};
        for (int kind = 0; kind < 4; kind++) {
            SlipBench x = new SlipBench();
            int[] bad = {LEAST, -1, most[kind] + 1, MOST};
            for (int n : bad) {
                Check.due("kind " + kind + " n " + n, NONE, x.act(kind, 0, n));
            }
            int[] good = {0, 1, most[kind] - 1, most[kind]};
            for (int k = 0; k < good.length; k++) {
                Check.due("kind " + kind + " n " + good[k], k, x.act(kind, 0, good[k]));
            }
        }
    }

    private static void digHasAtMost() {
        for (int n = 0; n <= 24; n++) {
            for (int tall = n - 1; tall <= n + 1; tall++) {
                if (tall < 1 || tall > 24) {
                    continue;
                }
                SlipBench x = new SlipBench();
                x.earth(1, 0, 0, false);
                x.lay(0, 0, tall);
                x.lay(1, 0, 24);
                x.set(0, 1, 9);
                x.act(DIG, 0, n);
                int left = Math.min(tall, n);
                Check.due("dig", true, x.perform(0));
                Check.due("dig " + tall + " to " + n, left, x.look(0, 3));
                Check.due("the top one", left == 0 ? NONE : 0, x.cell(0, left - 1));
                Check.due("those above are gone", NONE, x.cell(0, left));
                Check.due("cells in all", 24 + left, x.count(3));
                Check.due("the load stays", 9, x.look(0, 1));
                Check.due("as many can be laid again", left < 24 ? 24 : NONE, x.lay(0, 0, 24 - left));
            }
        }
        SlipBench empty = new SlipBench();
        empty.act(DIG, 0, 0);
        Check.due("nothing to dig", true, empty.perform(0));
        Check.due("nothing to dig", 0, empty.look(0, 3));
    }

    private static void nailAndLoadUpTo999() {
        int[] kinds = {NAIL, LOAD};
        int[] before = {0, 0, 1, 998, 998, 999, 999, 999, 500};
        int[] more = {0, 999, 998, 1, 2, 0, 1, 999, 499};
        int[] due = {0, 999, 999, 999, 999, 999, 999, 999, 999};
        for (int kind : kinds) {
            int what = kind == NAIL ? 2 : 1;
            for (int k = 0; k < before.length; k++) {
                SlipBench x = new SlipBench();
                x.set(1, what, before[k]);
                x.act(kind, 1, more[k]);
                Check.due("done", true, x.perform(0));
                Check.due("kind " + kind + ": " + before[k] + " and " + more[k], due[k], x.look(1, what));
                Check.due("not the other column", 0, x.look(0, what));
                Check.due("not the other amount", 0, x.look(1, 3 - what));
                Check.due("no water", 0, x.look(1, 0));
            }
        }
    }

    private static void drainIsAtMost() {
        for (int water = 0; water <= 24; water++) {
            int[] levels = {0, water - 1, water, water + 1, 24};
            for (int n : levels) {
                if (n >= 0 && n <= 24) {
                    SlipBench x = new SlipBench();
                    x.set(0, 0, water);
                    x.set(1, 0, 24);
                    x.act(DRAIN, 0, n);
                    Check.due("done", true, x.perform(0));
                    Check.due("drain " + water + " to " + n, Math.min(water, n), x.look(0, 0));
                    Check.due("not the other column", 24, x.look(1, 0));
                }
            }
        }
    }

    private static void performAgain() {
        SlipBench x = slick();
        x.act(NAIL, 0, 333);
        x.act(LOAD, 0, 250);
        x.act(DIG, 0, 2);
        int[] nails = {333, 666, 999, 999, 999};
        int[] loads = {250, 500, 750, 999, 999};
        for (int k = 0; k < 5; k++) {
            Check.due("again", true, x.perform(0));
            Check.due("nails", nails[k], x.look(0, 2));
            Check.due("again", true, x.perform(1));
            Check.due("load", loads[k], x.look(0, 1));
            Check.due("again", true, x.perform(2));
            Check.due("height", 2, x.look(0, 3));
            x.lay(0, 0, 3);
        }
        Check.due("still three acts", 3, x.count(2));
    }

    private static void performedLineAndWorst() {
        SlipBench x = slick();
        x.set(0, 1, 10);
        x.act(NAIL, 0, 5);
        x.act(LOAD, 0, 10);
        x.act(DIG, 1, 3);
        x.act(DIG, 0, 0);
        x.begin(0, 4);
        x.next(0);
        x.next(4);
        Check.due("worst before", 0, x.worst(0));
        x.perform(0);
        Check.due("worst behind the nails", 1, x.worst(0));
        Check.due("worst behind the nails", 8, x.worst(1));
        x.perform(1);
        Check.due("worst behind the load", 16, x.worst(1));
        Check.due("the line is still one", 1, x.line());
        x.perform(2);
        Check.due("but not behind the digging", 0, x.line());
        Check.due("the worst's end", 3, x.height(2));
        x.perform(3);
        Check.due("without cells there is none", NONE, x.worst(0));
    }

    private static void actsGoWithTheGround() {
        SlipBench x = new SlipBench();
        x.ground(12);
        x.act(LOAD, 11, 1);
        Check.due("a false ground leaves them", false, x.ground(1));
        Check.due("one", 1, x.count(2));
        Check.due("a ground", true, x.ground(12));
        Check.due("none", 0, x.count(2));
        Check.due("none to do", false, x.perform(0));
        Check.due("nothing done", 0, x.look(11, 1));
        Check.due("an order of none", 0, x.order(1, 1));
        Check.due("numbered from 0 on again", 0, x.act(NAIL, 11, 2));
        Check.due("the new one", true, x.perform(0));
        Check.due("does what it does", 2, x.look(11, 2));
        Check.due("and not what the old one did", 0, x.look(11, 1));
    }

    private static void orderOfAnyNumber() {
        SlipBench x = slick();
        for (int k = 0; k <= 6; k++) {
            Check.due("acts", k, x.order(1000, 1));
            for (int s = -1; s <= 7; s++) {
                Check.due("step " + s + " of " + k, s >= 0 && s < k ? s : NONE, x.step(s));
            }
            Check.due("least", NONE, x.step(LEAST));
            Check.due("most", NONE, x.step(MOST));
            if (k < 6) {
                x.act(NAIL, 0, k);
            }
        }
    }

    /** NAILS 4 n against a LOAD of n at DROP 4 make just 1 / 1. */
    private static void orderBehindEachNotBelow() {
        SlipBench x = slick();
        x.act(LOAD, 0, 1);
        x.act(NAIL, 0, 4);
        Check.due("at 1 by 1", 2, x.order(1, 1));
        Check.due("the load alone is below it", 1, x.step(0));
        Check.due("1001 by 1000 is none", NONE, x.order(1001, 1000));
        Check.due("1000 by 999 is above it", NO_ORDER, x.order(1000, 999));
        Check.due("999 by 1000 is below it", 2, x.order(999, 1000));
        Check.due("1 by 1000 too", 2, x.order(1, 1000));
        Check.due("the load alone is below that too", 1, x.step(0));
    }

    private static void orderFirstByNumbers() {
        SlipBench x = slick();
        x.act(LOAD, 0, 2);
        x.act(LOAD, 0, 1);
        x.act(NAIL, 0, 4);
        x.act(NAIL, 0, 4);
        x.act(NAIL, 0, 4);
        x.act(LOAD, 0, 0);
        // A LOAD of 0 may come at any time; 1 waits for four NAILS, 2 more for all.
        Check.due("an order", 6, x.order(1, 1));
        int[] due = {2, 1, 3, 4, 0, 5};
        for (int k = 0; k < 6; k++) {
            Check.due("step " + k, due[k], x.step(k));
        }
        Check.due("with less asked", 6, x.order(1, 2));
        int[] less = {2, 0, 3, 1, 4, 5};
        for (int k = 0; k < 6; k++) {
            Check.due("less, step " + k, less[k], x.step(k));
        }
    }

    private static void orderActsUponWhatIsThere() {
        SlipBench x = slick();
        x.set(0, 2, 990);
        x.act(NAIL, 0, 500);
        x.act(LOAD, 0, 250);
        // 999 NAILS at most, so with a LOAD of 250 it is 999 / 1000.
        Check.due("more nails than can be", NO_ORDER, x.order(1, 1));
        Check.due("999 of them", 2, x.order(999, 1000));
        Check.due("first them", 0, x.step(0));
        x.perform(0);
        Check.due("behind others", 2, x.order(999, 1000));
        Check.due("it stays", 999, x.look(0, 2));
        Check.due("it stays", 0, x.look(0, 1));
        SlipBench z = slick();
        z.act(DIG, 0, 3);
        z.act(DIG, 0, 1);
        z.act(LOAD, 0, 4);
        z.act(NAIL, 0, 4);
        // Behind the deeper digging DROP is 1 at most, behind the other 3.
        Check.due("digging by digging", 4, z.order(1, 1));
        int[] due = {0, 1, 3, 2};
        for (int k = 0; k < 4; k++) {
            Check.due("step " + k, due[k], z.step(k));
        }
        Check.due("the cells stay", 8, z.count(3));
        Check.due("the top one stays", 0, z.cell(0, 3));
        Check.due("no nails", 0, z.look(0, 2));
    }

    private static void orderOfNoShare() {
        SlipBench x = slick();
        x.act(LOAD, 0, 999);
        x.act(DIG, 1, 0);
        Check.due("no line, no share", 2, x.order(1000, 1));
        Check.due("dug first", 1, x.step(0));
        Check.due("then loaded", 0, x.step(1));
    }

    private static void orderNoneAtTheEnd() {
        SlipBench x = slick();
        x.act(LOAD, 0, 0);
        x.act(LOAD, 0, 0);
        x.act(LOAD, 0, 0);
        x.act(LOAD, 0, 0);
        x.act(LOAD, 0, 0);
        x.act(LOAD, 0, 1);
        Check.due("the last one is too much, wherever", NO_ORDER, x.order(1, 1000));
        Check.due("no step", NONE, x.step(0));
        x.set(1, 1, 1);
        Check.due("what drives back saves it", 6, x.order(1, 1000));
        Check.due("the last step", 5, x.step(5));
    }

    /** Behind both it would hold, but not behind the first one, whichever that is. */
    private static void orderNoneBetween() {
        SlipBench x = slick();
        x.set(0, 1, 1);
        x.act(NAIL, 0, 2);
        x.act(NAIL, 1, 2);
        Check.due("half of it is too little", NO_ORDER, x.order(1, 1));
        Check.due("just above half is too much", NO_ORDER, x.order(501, 1000));
        Check.due("half is enough", 2, x.order(1, 2));
        Check.due("by their numbers", 0, x.step(0));
        Check.due("then the other", 1, x.step(1));
        x.act(NAIL, 1, 4);
        Check.due("a third one may be first", 3, x.order(1, 1));
        Check.due("it is", 2, x.step(0));
        Check.due("then by their numbers", 0, x.step(1));
        Check.due("then by their numbers", 1, x.step(2));
    }

    private static void stepOfTheLatest() {
        SlipBench x = slick();
        x.act(LOAD, 0, 1);
        x.act(NAIL, 0, 4);
        Check.due("none yet", NONE, x.step(0));
        Check.due("an order", 2, x.order(1, 1));
        Check.due("none can be", NO_ORDER, x.order(2, 1));
        Check.due("the first one stays", 1, x.step(0));
        Check.due("no such", NONE, x.order(1, 0));
        Check.due("the first one stays", 0, x.step(1));
        x.act(NAIL, 0, 4);
        Check.due("two steps still", NONE, x.step(2));
        Check.due("another", 3, x.order(2, 1));
        Check.due("tells three", 0, x.step(2));
        Check.due("two nails first", 1, x.step(0));
        x.perform(1);
        Check.due("done acts leave it", 1, x.step(0));
        x.ground(2);
        Check.due("so does a new ground", 2, x.step(1));
        Check.due("an order without acts", 0, x.order(1, 1));
        Check.due("tells none", NONE, x.step(0));
    }

    private static void countOfEach() {
        SlipBench x = new SlipBench();
        int[] bad = {LEAST, -1, 4, 5, MOST};
        for (int what : bad) {
            Check.due("count " + what, NONE, x.count(what));
        }
        x.ground(12);
        x.earth(1, 1, 1, false);
        for (int i = 0; i < 12; i++) {
            x.lay(i, 0, 24);
            Check.due("cells", 24 * (i + 1), x.count(3));
        }
        Check.due("W", 12, x.count(0));
        Check.due("earths", 1, x.count(1));
        Check.due("acts", 0, x.count(2));
        x.ground(2);
        Check.due("no cells", 0, x.count(3));
    }

    /** The 512th call is answered as the first. */
    private static void fullRun() {
        SlipBench x = slick();
        int calls = 3;
        for (int v = 1; calls < 511; v++) {
            x.set(0, 1, 1 + v % 999);
            calls++;
        }
        Check.due("calls so far", 511, calls);
        Check.due("the 512th", 0, x.worst(2));
        SlipBench z = slick();
        z.act(LOAD, 0, 1);
        z.act(NAIL, 0, 4);
        for (calls = 5; calls < 511; calls++) {
            z.order(1, 1);
        }
        Check.due("the 512th", 1, z.step(0));
    }

    private static void benchesApart() {
        SlipBench x = slick();
        SlipBench z = new SlipBench();
        Check.due("no earths of the other", 0, z.count(1));
        Check.due("no cells of the other", 0, z.count(3));
        x.set(0, 1, 7);
        x.act(LOAD, 0, 1);
        x.order(1, 1);
        x.begin(0, 4);
        Check.due("no line of the other", NONE, z.next(0));
        Check.due("no acts of the other", 0, z.count(2));
        Check.due("no load of the other", 0, z.look(0, 1));
        z.earth(3, 3, 3, false);
        z.ground(5);
        Check.due("no ground of the other", 2, x.count(0));
        Check.due("its line stays", 2, x.next(0));
    }
}
