import com.sun.management.ThreadMXBean;
import java.lang.management.ManagementFactory;

/**
 * The room that calls take: each dear call 512 times, as often as an object is used. A room of 600,000
 * objects is shared by all calls of a run, so a call that made some anew each time would be seen here.
 */
public final class RoomTest {
    // The calls make nothing; what is let is for the machine's own, far less than one small object a call.
    private static final long BYTES_LET = 4_000L;
    private static final int CALLS = 512;
    private static final String[] NAMES = {"land", "funeral, weep, week, undo", "served", "till", "ring", "share",
        "weighed", "rests", "chance", "years", "keep, again", "person"};

    public static void main(String[] args) {
        ThreadMXBean thread = (ThreadMXBean) ManagementFactory.getThreadMXBean();
        BorrowedTears tears = Due.landOf("TP950P960P800P602P713K01K23");
        tears.funeral(0);
        for (int which = 0; which < NAMES.length; which++) {
            // Once ahead: what the machine makes when it meets code first is not the program's.
            ask(tears, which);
            long before = thread.getThreadAllocatedBytes(Thread.currentThread().getId());
            for (int call = 0; call < CALLS; call++) {
                ask(tears, which);
            }
            long made = thread.getThreadAllocatedBytes(Thread.currentThread().getId()) - before;
            Due.same("room of " + NAMES[which], made <= BYTES_LET ? "small" : made + " bytes", "small");
        }
        Due.end("RoomTest");
    }

    private static void ask(BorrowedTears tears, int which) {
        switch (which) {
            case 0 -> { tears.land(); tears.funeral(0); }
            case 1 -> { tears.funeral(1); tears.weep(2, 1); tears.week(); tears.undo(); tears.undo(); tears.undo(); }
            case 2 -> tears.served(2);
            case 3 -> tears.till(1, 0);
            case 4 -> tears.ring();
            case 5 -> tears.share(2, true);
            case 6 -> tears.weighed(31, 9, 1);
            case 7 -> tears.rests(2, 3, 0, 1);
            case 8 -> tears.chance(3, false);
            case 9 -> tears.years(20);
            case 10 -> { tears.keep(1); tears.again(1); }
            default -> tears.person(2, 5);
        }
    }
}
