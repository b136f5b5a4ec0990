import com.sun.management.ThreadMXBean;
import java.lang.management.ManagementFactory;

/** All calls of a run live in one room: what makes nothing must go on making nothing, and texts stay small. */
public final class RoomTest {

    private static final int CALLS = 512;
    private static final ThreadMXBean BEAN = (ThreadMXBean) ManagementFactory.getThreadMXBean();

    public static void main(String[] args) {
        Checkdesk x = new Checkdesk();
        for (int seat = 0; seat < 9; seat++) {
            x.fill(seat, 9, 24);
        }
        run(x, true);
        run(x, false);
        long still = made(x, true);
        Due.is("isSound() and digest() make nothing, or next to it: " + still, still < CALLS, true);
        long spelled = made(x, false);
        Due.is("a text takes some 200 bytes: " + spelled, spelled < CALLS * 400, true);
        Due.end("RoomTest");
    }

    private static long made(Checkdesk x, boolean still) {
        long before = BEAN.getThreadAllocatedBytes(Thread.currentThread().getId());
        run(x, still);
        return BEAN.getThreadAllocatedBytes(Thread.currentThread().getId()) - before;
    }

    private static void run(Checkdesk x, boolean still) {
        for (int call = 0; call < CALLS; call++) {
            if (!still) {
                x.text(call % 9);
            } else if (call % 2 == 0) {
                x.isSound();
            } else {
                x.digest();
            }
        }
    }
}
