import com.sun.management.ThreadMXBean;
import java.lang.management.ManagementFactory;

/** What an object and its 512 dearest calls allocate stays far below the room that a run has. */
public final class RoomTest {
    private static final ThreadMXBean THREADS = (ThreadMXBean) ManagementFactory.getThreadMXBean();

    public static void main(String[] args) {
        DigestBox box = new DigestBox();
        dearCalls(box);

        long start = allocated();
        box = new DigestBox();
        long made = allocated();
        dearCalls(box);
        long used = allocated();

        below("a new object", made - start, 20_000);
        below("512 calls", used - made, 200_000);
        Check.end();
    }

    /** Long tape, key and result, then the longest expansions: 512 calls in all. */
    private static void dearCalls(DigestBox box) {
        for (int i = 0; i < 200; i++) {
            box.feed(i, i, i, i, i);
        }
        box.key();
        for (int i = 0; i < 290; i++) {
            box.feed(i, i, i, i, i);
        }
        box.expand(2, 16320);
        for (int i = 0; i < 5; i++) {
            box.keep();
            box.expand(i % 3, 8160);
            box.peek(i % 3);
            box.hmac(i % 3);
        }
    }

    private static long allocated() {
        return THREADS.getCurrentThreadAllocatedBytes();
    }

    private static void below(String what, long bytes, long bound) {
        System.out.println(what + ": " + bytes + " bytes");
        Check.same(what + " stays below " + bound + " bytes", String.valueOf(bytes < bound), "true");
    }
}
