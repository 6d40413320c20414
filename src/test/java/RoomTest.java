import com.sun.management.ThreadMXBean;
import java.lang.management.ManagementFactory;

/** Measures the room that an object takes, and that 512 of the dearest calls take in all: little, as rows are used again. */
public final class RoomTest {
    private static final ThreadMXBean THREADS = (ThreadMXBean) ManagementFactory.getThreadMXBean();
    private static final long MANY = 512;
    private static int wrong = 0;

    private static long taken() {
        return THREADS.getThreadAllocatedBytes(Thread.currentThread().getId());
    }

    private static void below(String what, long bytes, long most) {
        System.out.println("RoomTest: " + what + " took " + bytes + " bytes");
        if (bytes > most) {
            wrong++;
            System.out.println("  at most " + most + " may be");
        }
    }

    public static void main(String[] args) {
        new Callorder().digest();
        long before = taken();
        Callorder bench = new Callorder();
        below("an object", taken() - before, 300_000);
        int[][] steps = {{1, 0, 0}, {0, 0, 9}, {0, 0, 5}, {1, 0, 0}, {0, 0, 7}, {0, 0, 4}, {6, 0, 8}, {0, 0, 1}, {0, 0, 6}};
        for (int i = 0; i < 9; i++) {
            bench.step(i / 3, steps[i][0], steps[i][1], steps[i][2]);
        }
        bench.trial(1, 1, 3);
        before = taken();
        for (int i = 0; i < MANY; i += 4) {
            bench.retell(0, i % 7);
            bench.digest();
            bench.unstep(0);
            bench.isSound();
        }
        // the rows for PLACES grow three times, once for all calls that follow
        below("512 calls with digests", taken() - before, 600_000);
        before = taken();
        for (int i = 0; i < MANY; i++) {
            bench.found(i % 7, i % 4, 8);
        }
        below("512 founds", taken() - before, 200_000);
        bench.wipe(true);
        bench.thing(0);
        for (int i = 0; i < 250; i++) {
            bench.call(0, 0, 0, 1, 0);
            bench.forget(0);
        }
        before = taken();
        for (int i = 0; i < MANY; i++) {
            bench.drawn(0);
        }
        below("512 long texts", taken() - before, 2_000_000);
        if (wrong > 0) {
            System.exit(1);
        }
    }
}
