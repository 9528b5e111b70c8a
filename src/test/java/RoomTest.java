import com.sun.management.ThreadMXBean;
import java.lang.management.ManagementFactory;

/** All calls of a run live in one room: calls use what the constructor made and make nothing more. */
public final class RoomTest {
    private static final int CALLS = 512;
    private static final long MOST_OF_AN_OBJECT = 60_000;
    private static final long MOST_OF_ALL_CALLS = 20_000;

    public static void main(String[] args) {
        ThreadMXBean room = (ThreadMXBean) ManagementFactory.getThreadMXBean();
        dearCalls(full());
        long start = room.getCurrentThreadAllocatedBytes();
        SlipBench x = new SlipBench();
        long made = room.getCurrentThreadAllocatedBytes() - start;
        Check.due("an object takes " + made + " bytes, too many", false, made > MOST_OF_AN_OBJECT);
        x = full();
        start = room.getCurrentThreadAllocatedBytes();
        dearCalls(x);
        long used = room.getCurrentThreadAllocatedBytes() - start;
        System.out.println(made + " bytes an object, " + used + " all calls");
        Check.due("dear calls take " + used + " bytes, too many", false, used > MOST_OF_ALL_CALLS);
        Check.end();
    }

    private static SlipBench full() {
        SlipBench x = new SlipBench();
        x.ground(12);
        for (int e = 0; e < 6; e++) {
            x.earth(5 + 4 * e, 3 * e + 1, e, e == 5);
        }
        for (int i = 0; i < 12; i++) {
            for (int k = 0; k < 24 - i; k++) {
                x.lay(i, k == 0 ? 5 : (i * 7 + k * 3) % 5, 1);
            }
            x.set(i, 0, i * 5 % 20);
            x.set(i, 1, i * 37 % 200);
        }
        for (int k = 0; k < 6; k++) {
            x.act(k % 4, k * 2, 20);
        }
        return x;
    }

    private static void dearCalls(SlipBench x) {
        for (int k = 0; k < CALLS / 8; k++) {
            x.set(0, 1, k);
            x.worst(0);
            x.order(1, 20);
            x.rise(1, 20);
            x.begin(0, 24);
            x.next(20);
            x.line();
            x.perform(k % 6);
        }
    }
}
