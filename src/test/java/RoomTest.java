import com.sun.management.ThreadMXBean;
import java.lang.management.ManagementFactory;

/**
 * A run's objects are never given back, so the calls of a run must make few of them. An object takes at least 16 bytes and
 * an element at least one: 512 calls of so many bytes make under 600,000 objects and 7.3 million elements.
 */
public final class RoomTest {
    private static final int CALLS = 130;
    private static final int MOST_BYTES = 12_000;
    private static final int MOST_BYTES_AT_FIRST = 30_000;
    private static final Check CHECK = new Check("RoomTest");
    private static final ThreadMXBean THREADS = (ThreadMXBean) ManagementFactory.getThreadMXBean();

    public static void main(String[] args) {
        constructor();
        makesLittle("contacts", x -> x.contacts(26));
        makesLittle("wire", x -> x.wire(0, 1, 2));
        makesLittle("ring", x -> x.ring(0, 1));
        makesLittle("plug and unplug", x -> {
            x.plug(0, 0, 1);
            x.unplug(0, 0);
        });
        makesLittle("reflects", x -> x.reflects(true));
        makesLittle("pin", x -> x.pin(0, 0, true));
        makesLittle("rule", x -> x.rule(1));
        makesLittle("path", x -> x.path(1));
        makesLittle("at", x -> x.at(1, 1));
        makesLittle("key and undo", x -> {
            x.key(0);
            x.undo();
        });
        makesLittle("fill", x -> x.fill(0, 0));
        makesLittle("notch", x -> x.notch(0, 0, true));
        makesLittle("pins", x -> x.pins(0, 61));
        makesLittle("lugs", x -> x.lugs(0, 0, 1));
        makesLittle("set", x -> x.set(0, 0, 1));
        makesLittle("key", x -> x.key(0));
        makesLittle("back", x -> x.back(0));
        makesLittle("image", x -> x.image(0));
        makesLittle("period", x -> x.period(5000));
        makesLittle("fixed", x -> x.fixed());
        makesLittle("replay", x -> x.replay(0));
        makesLittle("logged", x -> x.logged(0, 0, 0));
        makesLittle("count", x -> x.count(4));
        makesLittle("messages", x -> {
            x.contacts(26);
            x.open();
            x.close();
        });
        CHECK.end();
    }

    private interface Call {
        void make(RotorBench x);
    }

    private static RotorBench busy() {
        RotorBench x = new RotorBench();
        for (int s = 0; s < 6; s++) {
            x.fill(s, s);
            x.notch(s, 3, true);
        }
        for (int k = 0; k < 12; k++) {
            x.pins(k, 61 - k);
        }
        x.open();
        for (int i = 0; i < 60; i++) {
            x.key(i % 26);
        }
        x.close();
        return x;
    }

    /** What one thread has got, measured often enough for the machine's own objects to show as noise. */
    private static long made(Call call) {
        long least = Long.MAX_VALUE;
        for (int tries = 0; tries < 5; tries++) {
            RotorBench x = busy();
            long before = THREADS.getThreadAllocatedBytes(Thread.currentThread().getId());
            for (int i = 0; i < CALLS; i++) {
                call.make(x);
            }
            long after = THREADS.getThreadAllocatedBytes(Thread.currentThread().getId());
            least = Math.min(least, after - before);
        }
        return least;
    }

    private static void makesLittle(String name, Call call) {
        long made = made(call);
        CHECK.is(name + " made " + made + " bytes in " + CALLS + " calls", made < (long) MOST_BYTES * CALLS, true);
    }

    private static void constructor() {
        long made = made(x -> new RotorBench()) / CALLS;
        // Even 240 new objects in one run leave room.
        CHECK.is("a new object takes " + made + " bytes", made < MOST_BYTES_AT_FIRST, true);
    }
}
