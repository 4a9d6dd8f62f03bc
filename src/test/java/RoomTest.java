import com.sun.management.ThreadMXBean;
import java.lang.management.ManagementFactory;

/** All calls of a run share one room: an object is small, and its calls make nothing new. */
public final class RoomTest {
    private static final int MOST_BYTES_OF_AN_OBJECT = 16384;

    /** Far below one object a tick, above what the measuring itself makes. */
    private static final int MOST_BYTES_OF_ALL_CALLS = 65536;

    /** Of 7 calls each, after 16 puts: below the 512 calls of an object. */
    private static final int ROUNDS = 70;

    private static final ThreadMXBean THREADS = (ThreadMXBean) ManagementFactory.getThreadMXBean();

    private static long made() {
        return THREADS.getCurrentThreadAllocatedBytes();
    }

    private static FarLink busy() {
        FarLink x = new FarLink(1);
        for (int t = 0; t < 16; t++) {
            x.put(t % 4, 16, t % 4, t % 2 == 0);
        }
        return x;
    }

    private static void disturb(FarLink x, int i) {
        x.noise(true, 5L * i);
        x.noise(false, 0x112L * i);
        x.outage(i % 2 == 0, i % 7);
        x.suspend(i % 16, i % 3 == 0);
        x.write(i % 4, i % 16, i);
        x.decode(false, 0x123456789L * i);
    }

    public static void main(String[] args) {
        busy().run(100);
        long before = made();
        FarLink x = busy();
        long ofAnObject = made() - before;
        Check.due("bytes of an object: " + ofAnObject, ofAnObject <= MOST_BYTES_OF_AN_OBJECT, true);
        before = made();
        for (int i = 0; i < ROUNDS; i++) {
            disturb(x, i);
            x.run(100);
        }
        long ofAllCalls = made() - before;
        Check.due("bytes of all calls: " + ofAllCalls, ofAllCalls <= MOST_BYTES_OF_ALL_CALLS, true);
        Check.due("all ended", x.outcome(false, 15) >= 8, true);
        System.out.println(ofAnObject + " bytes an object, " + ofAllCalls + " bytes in all calls");
        Check.end();
    }
}
