import java.lang.management.ManagementFactory;

/** All calls of a run share one room that is never emptied: objects are small, and calls make next to nothing new. */
public final class RoomTest {
    private static final int BYTES_OF_AN_OBJECT = 40_000;
    private static final int BYTES_OF_A_KEY = 400;
    private static final int BYTES_OF_THE_LONGEST_TAPE = 100_000;

    public static void main(String[] args) {
        Check check = new Check();
        int[] found = new int[1];
        CurveKeys x = new CurveKeys();
        useAll(x, found);
        long bytes = bytesOf(() -> new CurveKeys());
        check.due("an object is small, here " + bytes, bytes < BYTES_OF_AN_OBJECT, true);
        CurveKeys y = new CurveKeys();
        bytes = bytesOf(() -> useAll(y, found));
        check.due("512 calls with 100 keys make little, here " + bytes, bytes < 100 * BYTES_OF_A_KEY, true);
        CurveKeys z = new CurveKeys();
        z.feed(1, 2, 3, 4, 5);
        z.feed(1, 2, 3, 4, 5);
        z.end(32);
        z.key();
        z.sign(0);
        bytes = bytesOf(() -> growTape(z));
        check.due("the longest TAPE, here " + bytes, bytes < BYTES_OF_THE_LONGEST_TAPE, true);
        check.finish();
    }

    private static void useAll(CurveKeys x, int[] found) {
        for (int i = 0; i < 100; i++) {
            x.feed(i, 2, 3, 4, 5);
            x.feed(1, 2, 3, 4, 5);
            x.end(32);
            x.key();
        }
        for (int i = 0; i < 12; i++) {
            x.open(i, 1);
            x.back(-1, 0);
            x.sign(i);
            x.back(-1, 0);
            found[0] += x.verify();
            x.open(i, 0);
            x.back(-1, 0);
            found[0] += x.agree(i) ? 1 : 0;
        }
    }

    private static void growTape(CurveKeys x) {
        for (int i = 0; i < 500; i++) {
            x.back(0, i);
        }
        x.message();
        x.sign(0);
    }

    private static long bytesOf(Runnable calls) {
        com.sun.management.ThreadMXBean threads =
                (com.sun.management.ThreadMXBean) ManagementFactory.getThreadMXBean();
        long before = threads.getCurrentThreadAllocatedBytes();
        calls.run();
        return threads.getCurrentThreadAllocatedBytes() - before;
    }
}
