import java.lang.management.ManagementFactory;

/** What the 512 calls of an object make: rows are made once and used again, however often calls come. */
public final class RoomTest {
    private static final int PROMISED_CALLS = 512;
    /** The rows of ten pieces and of the minutes are half of it; a row more with each call would be far above. */
    private static final long MOST_BYTES = 200_000;

    private static final com.sun.management.ThreadMXBean THREADS =
        (com.sun.management.ThreadMXBean) ManagementFactory.getThreadMXBean();

    private interface Calls {
        void on(StormPipes x);
    }

    public static void main(String[] args) {
        staysSmall("lines begun, laid and told", RoomTest::lines);
        staysSmall("one line laid again and again", RoomTest::lays);
        staysSmall("all that can be built, and seconds", RoomTest::seconds);
        staysSmall("calls that are refused", RoomTest::refused);
        Check.end();
    }

    private static void staysSmall(String what, Calls calls) {
        // The first time the machine makes things of its own, as it loads the classes.
        calls.on(new StormPipes(24));
        long before = THREADS.getThreadAllocatedBytes(Thread.currentThread().getId());
        calls.on(new StormPipes(24));
        long made = THREADS.getThreadAllocatedBytes(Thread.currentThread().getId()) - before;
        Check.same(what + ": " + made + " bytes are few", made <= MOST_BYTES, true);
    }

    private static int list(StormPipes x) {
        int calls = 0;
        for (int entry = 0; entry < 6; entry++) {
            x.list(100 + 50 * entry, 10 * entry);
            calls++;
        }
        return calls;
    }

    private static int tenPieces(StormPipes x) {
        x.begin(0, -2_000);
        for (int k = 0; k < 10; k++) {
            x.piece(-10 * k, 50, k);
        }
        return 11;
    }

    private static void lines(StormPipes x) {
        int calls = list(x);
        while (calls < PROMISED_CALLS - 13) {
            calls += tenPieces(x);
            x.lay(300, 2);
            x.laid(9, 2);
            calls += 2;
        }
        Check.same("a line is laid", x.laid(9, 1) > 0, true);
    }

    private static void lays(StormPipes x) {
        int calls = list(x) + tenPieces(x);
        while (calls < PROMISED_CALLS) {
            x.lay(calls, calls % 3);
            calls++;
        }
        Check.same("a line is laid", x.laid(9, 1) > 0, true);
    }

    private static void seconds(StormPipes x) {
        for (int k = 0; k < 24; k++) {
            x.node(1_000 - k, -k, 1 + k);
            x.area(k, 1_000, k);
            x.street(k, k % 8);
        }
        for (int k = 0; k < 40; k++) {
            x.pipe(k % 24, (k + 1 + k / 24) % 24, 100, 50);
        }
        for (int k = 0; k < 8; k++) {
            x.pump(k, k + 8, 20, 10, 3);
            x.gate(k, 10, 5);
            x.gully(k, 23 - k, 7);
        }
        for (int k = 0; k < 144; k++) {
            x.rain(k, 1_000);
            x.run(60);
        }
        Check.same("all is built", x.count(0) + x.count(1) + x.count(2) + x.count(3) + x.count(4) + x.count(5), 112);
        Check.same("all seconds pass", x.count(8), 8_640);
        Check.same("keeps()", x.keeps(), true);
    }

    private static void refused(StormPipes x) {
        int calls = 0;
        while (calls < PROMISED_CALLS - 12) {
            x.node(0, 0, 1);
            x.pipe(0, 1, 1, 10);
            x.area(0, 1, 0);
            x.pump(0, 1, 1, 0, 1);
            x.gate(0, 0, 1);
            x.gully(0, 0, 1);
            x.street(0, 0);
            x.run(601);
            x.list(9, 0);
            x.begin(0, 100_001);
            x.piece(0, 1, 0);
            x.lay(0, 0);
            calls += 12;
        }
        Check.same("nothing is there", x.count(0) + x.count(6) + x.count(7) + x.count(8), 0);
    }
}
