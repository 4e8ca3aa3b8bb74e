import java.lang.management.ManagementFactory;

/** What the dearest calls make: all calls of a run live in one room, so it must be next to nothing. */
public final class RoomTest {
    private static final int CALLS = 500;
    private static final long MOST_BYTES_AN_OBJECT = 16_384;
    private static final long MOST_BYTES_A_CALL = 64;

    private RoomTest() {
    }

    public static void main(String[] args) {
        com.sun.management.ThreadMXBean threads =
            (com.sun.management.ThreadMXBean) ManagementFactory.getThreadMXBean();
        long thread = Thread.currentThread().getId();
        useFully(new CrashVault());
        long start = threads.getThreadAllocatedBytes(thread);
        CrashVault v = new CrashVault();
        long made = threads.getThreadAllocatedBytes(thread);
        useFully(v);
        long used = threads.getThreadAllocatedBytes(thread);
        Check.due("bytes of an object, " + (made - start), true, () -> made - start <= MOST_BYTES_AN_OBJECT);
        Check.due("bytes of its calls, " + (used - made), true, () -> used - made <= CALLS * MOST_BYTES_A_CALL);
        Check.end();
    }

    private static void useFully(CrashVault v) {
        v.make(1, 1, 40, 1000);
        for (int i = 0; i < CALLS / 6; i++) {
            v.put(1 + i % 8, i);
            v.save(1000);
            v.open(1);
            v.isGood(1, 1);
            v.renew(1, 40);
            if (i % 20 == 19) {
                v.remove(1 + i % 8);
            }
        }
    }
}
