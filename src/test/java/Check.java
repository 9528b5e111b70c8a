import java.util.NoSuchElementException;

/** What the project's tests share: answers compared, misses told and counted. */
final class Check {
    /** Told in place of an answer by a call that throws. */
    static final long NO_SUCH_ELEMENT = -1001;
    static final long OUT_OF_BOUNDS = -1002;

    private static int wrong = 0;

    private Check() {
    }

    static void due(String what, long want, long got) {
        if (want != got) {
            wrong++;
            System.out.println(what + " answered " + got + ", due is " + want);
        }
    }

    static void due(String what, boolean want, boolean got) {
        due(what, want ? 1 : 0, got ? 1 : 0);
    }

    static long share(SlipBench x, int what) {
        try {
            return x.share(what);
        } catch (NoSuchElementException e) {
            return NO_SUCH_ELEMENT;
        }
    }

    static long look(SlipBench x, int column, int what) {
        try {
            return x.look(column, what);
        } catch (IndexOutOfBoundsException e) {
            return OUT_OF_BOUNDS;
        } catch (NoSuchElementException e) {
            return NO_SUCH_ELEMENT;
        }
    }

    static int wrong() {
        return wrong;
    }

    static void end() {
        System.out.println(wrong == 0 ? "all as due" : wrong + " not as due");
        if (wrong != 0) {
            System.exit(1);
        }
    }
}
