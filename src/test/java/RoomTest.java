import java.lang.management.ManagementFactory;

/** The room in which all calls of a run live: what the dearest calls make, counted in bytes, stays far below it. */
public final class RoomTest {
    private static final com.sun.management.ThreadMXBean THREADS =
            (com.sun.management.ThreadMXBean) ManagementFactory.getThreadMXBean();

    public static void main(String[] args) {
        made();
        long ahead = THREADS.getThreadAllocatedBytes(Thread.currentThread().getId());
        GorgeWire x = made();
        long first = THREADS.getThreadAllocatedBytes(Thread.currentThread().getId()) - ahead;
        Due.is("a new object takes less than 16 KiB: " + first, first < 16384 ? 1 : 0, 1);
        dearest(x);
        x = made();
        ahead = THREADS.getThreadAllocatedBytes(Thread.currentThread().getId());
        dearest(x);
        long then = THREADS.getThreadAllocatedBytes(Thread.currentThread().getId()) - ahead;
        // 480 calls that made but one object each would take 7680 bytes.
        Due.is("480 of the dearest calls make next to nothing: " + then, then < 4096 ? 1 : 0, 1);
        Due.end();
    }

    private static GorgeWire made() {
        GorgeWire x = new GorgeWire();
        for (int i = 0; i < 8; i++) {
            x.ride(i % 7, 100, 30);
            x.line(1 + i, 9 - i);
        }
        for (int i = 0; i < 5; i++) {
            x.load(10 + i, i & 1);
        }
        return x;
    }

    private static void dearest(GorgeWire x) {
        for (int i = 0; i < 48; i++) {
            x.snug(0, 60, 1);
            x.lower(0, 60);
            x.gusts(200);
            x.strands(200);
            x.check(200);
            x.order(-1);
            x.over(7, -1);
            x.voice(6, 3, i);
            x.image();
            x.restore();
        }
    }
}
