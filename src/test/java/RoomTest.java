import com.sun.management.ThreadMXBean;
import java.lang.management.ManagementFactory;

/**
 * The room of one run: the calls that ask make no objects, and 512 of the dearest stay far below
 * 600,000 objects. An object takes 16 bytes at least.
 */
final class RoomTest {
    private static final Check CHECK = new Check();
    private static final ThreadMXBean THREADS =
            (ThreadMXBean) ManagementFactory.getThreadMXBean();
    private static final long MOST_BYTES = 400_000;

    private RoomTest() {
    }

    public static void main(String[] args) {
        digests();
        digests();
        plants();
        CHECK.end();
    }

    private static void digests() {
        SplayOrchard x = new SplayOrchard();
        for (int size = 0; size < 40; size++) {
            x.plant(0, size);
        }
        long before = bytes();
        for (int i = 0; i < 470; i++) {
            x.digest();
        }
        stays("470 digests", bytes() - before);
    }

    private static void plants() {
        long before = bytes();
        SplayOrchard x = new SplayOrchard();
        for (int i = 0; i < 256; i++) {
            x.plant(0, i);
            x.pick(0, i);
        }
        stays("256 plants and picks", bytes() - before);
    }

    private static long bytes() {
        return THREADS.getThreadAllocatedBytes(Thread.currentThread().getId());
    }

    private static void stays(String what, long bytes) {
        if (bytes > MOST_BYTES) {
            CHECK.complain(what + " took " + bytes + " bytes, due are at most " + MOST_BYTES);
        }
    }
}
