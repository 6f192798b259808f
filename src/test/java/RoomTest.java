import com.sun.management.ThreadMXBean;
import java.lang.management.ManagementFactory;

/** All calls of a run live in one room: a desk is small, and its dearest calls make no objects. */
public final class RoomTest {
    private static final ThreadMXBean BEAN = (ThreadMXBean) ManagementFactory.getThreadMXBean();
    private static final long SELF = Thread.currentThread().getId();
    private static final int CALLS = 450;
    private static final int SMALLEST_OBJECT = 16;
    private static final int DESK_BYTES = 8192;

    interface Asked {
        void ask(PassDesk desk);
    }

    public static void main(String[] args) {
        // The first desk and the first measure load the classes.
        made(Desks::busy);
        Check.same("a full desk is small", made(Desks::busy) <= DESK_BYTES, true);
        makesNone("best", desk -> desk.best());
        makesNone("digest", desk -> desk.digest());
        makesNone("share", desk -> desk.share());
        makesNone("weight", desk -> desk.weight(65535));
        makesNone("take", desk -> desk.take(0));
        makesNone("run", desk -> desk.run(20));
        Check.end();
    }

    private static void makesNone(String name, Asked asked) {
        PassDesk desk = Desks.busy();
        asked.ask(desk);
        long bytes = made(() -> {
            for (int i = 0; i < CALLS; i++) {
                asked.ask(desk);
            }
        });
        // What the machine makes for itself is measured, too, but it is less than an object a call.
        Check.same(name + "() makes an object each time: " + bytes + " bytes", bytes >= CALLS * SMALLEST_OBJECT, false);
    }

    private static long made(Check.Call call) {
        long before = BEAN.getThreadAllocatedBytes(SELF);
        call.make();
        return BEAN.getThreadAllocatedBytes(SELF) - before;
    }
}
