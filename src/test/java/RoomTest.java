import java.lang.management.ManagementFactory;

/** All calls of a run share one room, so a run must use its rows again instead of making new ones. */
public final class RoomTest {
    // 21 maps of 600 keys and values, four bytes each, and a quarter of that for what holds them.
    private static final long MOST_BYTES = 21 * 1200 * 4 * 5 / 4;
    // One map's keys and values and little else: a run may make an object in every call.
    private static final long MOST_BYTES_OF_NEW = 1200 * 4 + 1000;

    private static final com.sun.management.ThreadMXBean THREADS =
        (com.sun.management.ThreadMXBean) ManagementFactory.getThreadMXBean();

    private RoomTest() {
    }

    public static void main(String[] args) {
        // The first round also pays for the loading of classes.
        wholeRun();
        newObject();
        Check.due("a whole run's bytes, " + MOST_BYTES + " at most", Math.max(wholeRun(), MOST_BYTES), MOST_BYTES);
        Check.due("a new object's bytes, " + MOST_BYTES_OF_NEW + " at most",
            Math.max(newObject(), MOST_BYTES_OF_NEW), MOST_BYTES_OF_NEW);
        Check.finish("RoomTest");
    }

    private static long made() {
        return THREADS.getThreadAllocatedBytes(Thread.currentThread().getId());
    }

    private static long newObject() {
        long before = made();
        OrderedVersions x = new OrderedVersions();
        return made() - before + x.astray();
    }

    /** 512 calls at their dearest: every snapshot and cursor, taken and let go of again and again. */
    private static long wholeRun() {
        long before = made();
        OrderedVersions x = new OrderedVersions();
        x.load(0, 2, 599, 1, 0);
        for (int i = 0; i < 12; i++) {
            x.snapshot();
        }
        for (int i = 0; i < 8; i++) {
            x.open(0, 0, false);
        }
        for (int i = 0; i < 49; i++) {
            x.put(1, i);
            x.merge(1 + i % 12);
            x.differs(0, 1 + i % 12);
            x.remove(1);
            x.release(1 + i % 12);
            x.snapshot();
            x.close(i % 8);
            x.open(0, 600, true);
            x.restore(1 + i % 12);
            x.astray();
        }
        return made() - before;
    }
}
