import java.lang.management.ManagementFactory;

/** An object's 512 calls, up to the last one, and the room that the dearest of them take. */
public final class LimitsTest {
    private static final int CALLS = 512;
    /** A tenth of the room that a run's objects, fields and elements have, of four bytes each. */
    private static final long MOST_BYTES = 7_300_000L * 4 / 10;

    private LimitsTest() {
    }

    public static void main(String[] args) {
        lastCall();
        manyBytes();
        manyWindows();
        roomOfManyCalls();
        Due.end();
    }

    private static void lastCall() {
        Panehouse h = new Panehouse();
        h.window();
        for (int i = 2; i < CALLS; i++) {
            Due.is("a bell has no answer", h.feed(0, 7), 0);
        }
        Due.is("the 512th call", h.state(0, 'k'), CALLS - 2);
    }

    private static void manyBytes() {
        Panehouse h = new Panehouse();
        h.window();
        for (int i = 2; i < CALLS; i++) {
            h.feedMore(0, 8, 'a', 10, 'b', 10, 'c', 10, 'd', 10);
        }
        Due.is("the 512th call", h.state(0, 'p'), 40);
    }

    private static void manyWindows() {
        Panehouse h = new Panehouse();
        h.window();
        for (int i = 1; i < 256; i++) {
            Due.is("its number is free again", h.window(), 1);
            Due.is("panes", h.close(1), 1);
        }
        Due.is("the 512th call", h.windows(), 1);
    }

    private static long allocated() {
        return ((com.sun.management.ThreadMXBean) ManagementFactory.getThreadMXBean())
                .getThreadAllocatedBytes(Thread.currentThread().getId());
    }

    private static void dearCall(Panehouse h, int i) {
        if (i % 4 == 0) {
            h.feedMore(i % 8, 8, 27, '[', '6', 'n', 27, '[', '6', 'n');
        } else if (i % 4 == 1) {
            h.resize(0, 4 + i % 57, 2 + i % 23);
        } else if (i % 4 == 2) {
            h.redraw(0);
        } else {
            h.isSound();
        }
    }

    private static void roomOfManyCalls() {
        long before = allocated();
        Panehouse h = new Panehouse();
        h.window();
        h.attach(60, 24);
        for (int i = 0; i < 7; i++) {
            h.split(i, i % 2 == 0, 5);
        }
        for (int i = 9; i < CALLS; i++) {
            dearCall(h, i);
        }
        for (int i = 0; i < CALLS; i++) {
            h.close(7);
            h.split(0, true, 5);
        }
        long taken = allocated() - before;
        Due.is("room for " + taken + " bytes", taken < MOST_BYTES, true);
    }
}
