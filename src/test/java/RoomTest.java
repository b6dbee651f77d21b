import com.sun.management.ThreadMXBean;
import java.lang.management.ManagementFactory;

/** A run's objects are never given back, so no call that is not refused makes any, but for the constructor. */
public final class RoomTest {
    private static final int CALLS = 130;
    private static final Check CHECK = new Check("RoomTest");
    private static final ThreadMXBean THREADS = (ThreadMXBean) ManagementFactory.getThreadMXBean();

    public static void main(String[] args) {
        constructor();
        makesNothing("contacts", x -> x.contacts(26));
        makesNothing("wire", x -> x.wire(0, 1, 2));
        makesNothing("ring", x -> x.ring(0, 1));
        makesNothing("plug and unplug", x -> {
            x.plug(0, 0, 1);
            x.unplug(0, 0);
        });
        makesNothing("reflects", x -> x.reflects(true));
        makesNothing("pin", x -> x.pin(0, 0, true));
        makesNothing("rule", x -> x.rule(1));
        makesNothing("path", x -> x.path(1));
        makesNothing("at", x -> x.at(1, 1));
        makesNothing("key and undo", x -> {
            x.key(0);
            x.undo();
        });
        makesNothing("fill", x -> x.fill(0, 0));
        makesNothing("notch", x -> x.notch(0, 0, true));
        makesNothing("pins", x -> x.pins(0, 61));
        makesNothing("lugs", x -> x.lugs(0, 0, 1));
        makesNothing("set", x -> x.set(0, 0, 1));
        makesNothing("key", x -> x.key(0));
        makesNothing("back", x -> x.back(0));
        makesNothing("image", x -> x.image(0));
        makesNothing("period", x -> x.period(5000));
        makesNothing("fixed", x -> x.fixed());
        makesNothing("replay", x -> x.replay(0));
        makesNothing("logged", x -> x.logged(0, 0, 0));
        makesNothing("count", x -> x.count(4));
        makesNothing("messages", x -> {
            x.contacts(26);
            x.open();
            x.close();
        });
        CHECK.end();
    }

    private interface Call {
        void make(RotorBench x);
    }

    private static RotorBench busy() {
        RotorBench x = new RotorBench();
        for (int s = 0; s < 6; s++) {
            x.fill(s, s);
            x.notch(s, 3, true);
        }
        for (int k = 0; k < 12; k++) {
            x.pins(k, 61 - k);
        }
        x.open();
        for (int i = 0; i < 60; i++) {
            x.key(i % 26);
        }
        x.close();
        return x;
    }

    /** What one thread has got, measured often enough for the machine's own objects to show as noise. */
    private static long made(Call call) {
        long least = Long.MAX_VALUE;
        for (int tries = 0; tries < 5; tries++) {
            RotorBench x = busy();
            long before = THREADS.getThreadAllocatedBytes(Thread.currentThread().getId());
            for (int i = 0; i < CALLS; i++) {
                call.make(x);
            }
            long after = THREADS.getThreadAllocatedBytes(Thread.currentThread().getId());
            least = Math.min(least, after - before);
        }
        return least;
    }

    private static void makesNothing(String name, Call call) {
        long made = made(call);
        CHECK.is(name + " made " + made + " bytes in " + CALLS + " calls", made < 16L * CALLS / 2, true);
    }

    private static void constructor() {
        long made = made(x -> new RotorBench()) / CALLS;
        // 7.3 million elements for 512 constructors are some 14,000 of 4 bytes for each.
        CHECK.is("a new object takes " + made + " bytes", made < 30_000, true);
    }
}
