import java.lang.management.ManagementFactory;

/** All calls of a run share one room: only a new object and its first search may make rows. */
public final class RoomTest {
    private static final com.sun.management.ThreadMXBean threads =
            (com.sun.management.ThreadMXBean) ManagementFactory.getThreadMXBean();
    private static final Due due = new Due("RoomTest");

    public static void main(String[] args) {
        made(new TalePlay());
        long start = bytes();
        TalePlay x = new TalePlay();
        due.be("a new object stays below 40,000 bytes", bytes() - start < 40_000 ? 1 : 0, 1);
        start = bytes();
        made(x);
        due.be("512 calls stay below 80,000 bytes", bytes() - start < 80_000 ? 1 : 0, 1);
        due.done();
    }

    private static long bytes() {
        return threads.getThreadAllocatedBytes(Thread.currentThread().getId());
    }

    /** Every sort of call, the dear ones often. */
    private static void made(TalePlay x) {
        x.make(0, 0);
        x.make(5, 1);
        for (int o = 2; o < 20; o++) {
            x.make(1 + o % 4, 1);
            x.say(0, o, 0, 0);
        }
        x.say(0, 1, 0, 0);
        x.say(5, 0, 2, 0);
        x.begin(1);
        for (int i = 0; i < 80; i++) {
            x.seek(0, 1, 300);
            x.digest();
            x.act(1, 3 + i % 17, 0);
            x.way(0, 0, true);
            x.bulk(3 + i % 17);
        }
        x.line(0, 0, 12);
        x.copy(0, 0, 0, 0, 1, 11);
        x.cast(1, 12);
        x.role(0, 0, 3);
        x.back();
        x.unsay(3);
    }
}
