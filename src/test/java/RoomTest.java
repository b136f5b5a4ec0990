import com.sun.management.ThreadMXBean;
import java.lang.management.ManagementFactory;

/**
 * All calls of a run live in one room of 600,000 objects and 7,300,000 fields and elements. An object takes more than
 * 16 bytes, an element one at least: what takes fewer than 7,300,000 bytes finds room in both.
 */
public final class RoomTest {

    private static final int CALLS = 512;
    private static final long ROOM = 7_300_000;
    private static final ThreadMXBean BEAN = (ThreadMXBean) ManagementFactory.getThreadMXBean();

    public static void main(String[] args) {
        findsRoom("new desks", x -> new Checkdesk());
        findsRoom("digest", x -> x.digest());
        findsRoom("isSound", x -> x.isSound());
        findsRoom("text", x -> x.text(8));
        findsRoom("part", x -> x.part(8, 0, 24));
        findsRoom("orElse", x -> x.orElse(0, 8));
        findsRoom("orGiven", x -> x.orGiven(0, 8));
        findsRoom("ahead", x -> x.ahead(8, 2));
        findsRoom("insides", x -> x.insides(8, 2));
        findsRoom("take", x -> x.take(8, 0, 24));
        findsRoom("copy", x -> x.copy(7, 8));
        findsRoom("fill", x -> x.fill(7, 6, 24));
        Due.end("RoomTest");
    }

    /** 512 times the same call, on a desk that is full but for SEAT 0, that is MISSING. */
    private static void findsRoom(String call, Bound.Made made) {
        run(made);
        long bytes = run(made);
        Due.is("512 times " + call + " find room, they take " + bytes + " bytes", bytes < ROOM, true);
    }

    private static long run(Bound.Made made) {
        Checkdesk x = new Checkdesk();
        for (int seat = 1; seat <= 8; seat++) {
            x.fill(seat, 9, 24);
        }
        x.leave(0);
        long before = BEAN.getThreadAllocatedBytes(Thread.currentThread().getId());
        // The calls that set the desk up are of the 512, too.
        for (int call = 9; call < CALLS; call++) {
            made.on(x);
        }
        return BEAN.getThreadAllocatedBytes(Thread.currentThread().getId()) - before;
    }
}
