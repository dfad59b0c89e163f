import java.lang.management.ManagementFactory;

/** The dearest calls, 512 of them, stay far inside the room that all calls of a run have together. */
public final class RoomTest {
    private static final long MOST_BYTES = 1_000_000;

    private static final Checks CHECKS = new Checks();

    public static void main(String[] args) {
        // The first run loads what is loaded once.
        bytesOfARun();
        long bytes = bytesOfARun();
        CHECKS.due("bytes of a run: " + bytes, true, () -> bytes < MOST_BYTES);
        CHECKS.end("RoomTest");
    }

    private static long bytesOfARun() {
        com.sun.management.ThreadMXBean threads =
            (com.sun.management.ThreadMXBean) ManagementFactory.getThreadMXBean();
        long was = threads.getThreadAllocatedBytes(Thread.currentThread().getId());
        ScrimshawKernel kernel = new ScrimshawKernel();
        for (int at = -32; at < 32; at += 2) {
            kernel.addRectangle(0, at, -32, 1, 64);
            kernel.addRectangle(1, -32, at, 64, 1);
        }
        for (int region = 0; region < 8; region++) {
            kernel.combine(7 - region, 0, 1, 3);
        }
        for (int n = 0; n < 100; n++) {
            kernel.digest();
            kernel.pieces(7);
            kernel.corners(7, 2000);
            kernel.fill(7);
        }
        return threads.getThreadAllocatedBytes(Thread.currentThread().getId()) - was;
    }
}
