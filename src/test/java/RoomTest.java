import java.lang.management.ManagementFactory;

/** The dearest calls on a full season: they end soon and make no objects, and a season is small. */
public final class RoomTest {
    // 7.3 million elements and 600,000 objects are the room of a whole run; a season takes some 1,600
    // elements in some 40 objects, so that thousands of seasons have room.
    private static final long BYTES_OF_SEASON = 12_000;
    // The class makes nothing in a call but an exception; this leaves room for what the machine makes.
    private static final long BYTES_OF_CALLS = 20_000;

    public static void main(String[] args) {
        dearestCalls(full());
        long start = allocated();
        SeasonOfHours x = full();
        long made = allocated();
        dearestCalls(x);
        long end = allocated();
        System.out.println("a season: " + (made - start) + " bytes, 448 calls: " + (end - made) + " bytes");
        Check.yes("a season's room", made - start < BYTES_OF_SEASON);
        Check.yes("room of calls", end - made < BYTES_OF_CALLS);
        Check.end();
    }

    private static long allocated() {
        com.sun.management.ThreadMXBean bean = (com.sun.management.ThreadMXBean) ManagementFactory.getThreadMXBean();
        return bean.getThreadAllocatedBytes(Thread.currentThread().getId());
    }

    /** Six artists of one rank who play six modes at all hours, and ten pieces: 63 calls. */
    private static SeasonOfHours full() {
        SeasonOfHours x = new SeasonOfHours();
        for (int i = 0; i < 6; i++) {
            x.mode(1 << i, 15);
            x.artist(5);
        }
        for (int i = 0; i < 36; i++) {
            x.like(i / 6, i % 6, 1 + i * 7 % 5);
        }
        for (int i = 0; i < 10; i++) {
            x.piece(i % 6, 1, 3, i % 5 == 0);
        }
        x.season(2, 3);
        x.vote(0, 0);
        return x;
    }

    private static void dearestCalls(SeasonOfHours x) {
        for (int i = 0; i < 64; i++) {
            x.put(i % 6, i % 5, i % 4);
            x.mend();
            x.best();
            x.wrong();
            x.row(i, 300 - i);
            x.prize(i % 6);
            x.count(i % 8);
        }
    }
}
