import com.sun.management.ThreadMXBean;
import java.lang.management.ManagementFactory;

/** What an object and all its calls make stays far below the one room that all calls of a run live in. */
final class RoomTest {
    private static final long MOST_BYTES_OF_AN_OBJECT = 200_000;
    private static final long MOST_BYTES_OF_ITS_CALLS = 2_000_000;

    public static void main(String[] args) {
        ThreadMXBean meter = (ThreadMXBean) ManagementFactory.getThreadMXBean();
        long me = Thread.currentThread().getId();
        meter.getThreadAllocatedBytes(me);
        long before = meter.getThreadAllocatedBytes(me);
        CapsuleKeepers c = new CapsuleKeepers();
        long made = meter.getThreadAllocatedBytes(me);
        callAll(c);
        long called = meter.getThreadAllocatedBytes(me);
        Checks.due("bytes of an object: " + (made - before), made - before <= MOST_BYTES_OF_AN_OBJECT ? 1 : 0, 1);
        Checks.due("bytes of its calls: " + (called - made), called - made <= MOST_BYTES_OF_ITS_CALLS ? 1 : 0, 1);
        Checks.finish("RoomTest");
    }

    /** 512 calls, the dearest ones among them. */
    private static void callAll(CapsuleKeepers c) {
        for (int i = 0; i < 8; i++) {
            c.keeper();
        }
        c.seal(250, 4, 9999);
        for (int i = 0; i < 7; i++) {
            c.quarrel(i, i + 1);
        }
        for (int i = 0; i < 40; i++) {
            c.append('r');
            c.append(';');
            c.append('d');
            c.firstError();
            c.clearBuffer();
            c.renew();
            c.forge(i & 7, i);
            c.undo();
            c.needed();
            c.digest();
        }
        c.append('r');
        c.live();
        for (int i = 0; i < 94; i++) {
            c.digest();
        }
    }
}
