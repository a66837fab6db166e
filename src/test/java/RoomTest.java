import java.lang.management.ManagementFactory;

/** What a run of calls makes: an object and its talks and rows, and nothing for each call. */
public final class RoomTest {
    private static final long MOST_BYTES = 40_000;
    private static WireWatch kept;

    public static void main(String[] args) {
        Check c = new Check();
        com.sun.management.ThreadMXBean beans =
            (com.sun.management.ThreadMXBean) ManagementFactory.getThreadMXBean();
        run();
        long before = beans.getCurrentThreadAllocatedBytes();
        run();
        long made = beans.getCurrentThreadAllocatedBytes() - before;
        System.out.println("a run of some 2,000 calls made " + made + " bytes");
        c.isTrue("a run makes little", made < MOST_BYTES);
        c.due("talks", kept.many(2), 8);
        c.end();
    }

    private static void run() {
        WireWatch x = new WireWatch();
        kept = x;
        for (int k = 0; k < 60; k++) {
            int m = k % 10;
            int o = (k * 3 + 1) % 10;
            x.road(m, o, true);
            x.post(m, o, true);
            x.door(m, o);
            x.shut(k % 8, k % 3 == 0);
            x.way(m, o, -1);
            x.blind(m, o);
            x.talk(k % 3, m, o);
            x.sheet(k % 4, k % 3, 60);
            x.set(k % 4, k, k % 4);
            x.piece(k % 8, k, k, k % 4, k % 3, k % 40, 20);
            x.row(k % 4, k % 3, k % 50, 6);
            x.fits(k % 8, k % 8, 0, 0);
            x.scan(k);
            x.chain(k % 4, k % 3, 0, 6);
            x.count(m, k % 14, k);
            x.odds(m, 127, 0);
            x.likes(m, 127);
            x.put(k * 100, 1);
            x.miss();
            x.grow(k % 4, k % 3, k % 50, 10);
            x.gone(k % 4, k % 3, k % 50, 10);
            x.rows(10);
            x.work(m, o, 5);
            x.still((1 << x.many(1)) - 1, 1);
            x.parted(1 << m, 1 << o, 0);
            x.least(1 << m, 1 << o, 0);
            x.may(k % 4, m, 5);
            x.look(k % 4, k % 8, 5);
            x.copy(k % 4, 0, k % 4, 1, 59);
            x.cell(k % 4, 0, k % 3);
            x.tell(k % 8);
            x.call(k % 8);
            x.as(k % 8, 1);
        }
    }
}
