import java.lang.management.ManagementFactory;

/** All calls live in one room: what an object and its dearest calls make stays small. */
public final class RoomTest {
    private static final long MOST_OF_AN_OBJECT = 40_000;
    private static final long MOST_OF_A_RUN = 120_000;

    private static long made() {
        return ((com.sun.management.ThreadMXBean) ManagementFactory.getThreadMXBean()).getThreadAllocatedBytes(Thread.currentThread().getId());
    }

    private static void run(BookOfAll x) {
        x.hand(255, 20, 0);
        for (int i = 0; i < 12; i++) {
            x.feed(0x736b6970, 0x20746865, 0x3b6f7765, 0x20313b20, 0x20202020);
            x.fault();
            x.sheet();
            x.force(i, -1);
        }
        for (int i = 0; i < 20; i++) {
            x.article(0x61620000 + i % 10 * 256 + 0x6100, 0, 0, 10);
            x.article(0, 0, 0, 10);
        }
        x.tell(0, 1, 1);
        for (int i = 0; i < 20; i++) {
            x.give(i, 0);
            for (int j = 0; j < 10; j++) {
                x.line(i, 0, j);
            }
        }
        for (int i = 0; i < 10; i++) {
            x.lengths(0, 7);
            x.length(3, 7);
            x.giving(127, 1, 9);
            x.at(0, i);
            x.why(i, i + 1);
            x.stales(i);
            x.steal(1);
        }
        x.set(0);
        for (int i = 0; i < 20; i++) {
            x.thief(0, 0);
            x.index(3, 0, 0);
        }
    }

    public static void main(String[] args) {
        run(new BookOfAll());
        long before = made();
        BookOfAll x = new BookOfAll();
        long object = made() - before;
        before = made();
        run(x);
        long calls = made() - before;
        boolean fits = object <= MOST_OF_AN_OBJECT && calls <= MOST_OF_A_RUN && x.count(3) == 200 && x.count(6) == 1;
        System.out.println("an object makes " + object + " bytes, a full run " + calls + (fits ? "" : ": not as due"));
        if (!fits) {
            System.exit(1);
        }
    }
}
