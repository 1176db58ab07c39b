import java.lang.management.ManagementFactory;

/** All calls of a run live in one room: what they make all together is counted. */
public final class RoomTest {
    // some 7.3 million fields and elements, of four bytes at least
    private static final long MOST_BYTES = 4 * 7_300_000L;
    private static final com.sun.management.ThreadMXBean THREADS =
            (com.sun.management.ThreadMXBean) ManagementFactory.getThreadMXBean();

    public static void main(String[] args) {
        // the first runs load classes, which is no doing of the calls
        for (int run = 0; run < 3; run++) {
            calls(new HornCity());
        }
        long before = THREADS.getCurrentThreadAllocatedBytes();
        calls(new HornCity());
        long made = THREADS.getCurrentThreadAllocatedBytes() - before;
        Due.due("bytes made by a run, " + made + ", are few", made <= MOST_BYTES ? 1 : 0, 1);
        Due.finish("RoomTest");
    }

    private static long calls(HornCity x) {
        long sum = 0;
        for (int one = 0; one < 9; one++) {
            sum += x.one(one, 20 * one, one - 4);
        }
        for (int round = 0; round < 11; round++) {
            for (int i = 0; i < 20; i++) {
                sum += x.say('.');
            }
            sum += x.fault() + x.judge(0) + x.behind(0, 0) + x.then(0) + x.image(0) + x.done() + x.restore(0) + x.wipe();
            sum += x.triangles(0) + x.lean(0) + x.bisect(0) + x.meet(0, 1) + x.bring(0, 7, 1, 1, 1, 0);
            sum += x.was(2, -1) + x.ask(0) + x.chalk(60, round) + x.was(2, 3000) + x.ask(1) + x.forget();
            sum += x.take(179, 0) + x.cock(12, 0, 3, 3, 16, 1, 0) + x.book(77, 99, 0);
        }
        return sum;
    }
}
