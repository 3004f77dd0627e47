import java.lang.management.ManagementFactory;

/** A run's room: an object is made once, and no call makes anything. */
public final class RoomTest {
    private static final int ROUNDS = 20;

    private static long allocated() {
        com.sun.management.ThreadMXBean bean = (com.sun.management.ThreadMXBean) ManagementFactory.getThreadMXBean();
        return bean.getThreadAllocatedBytes(Thread.currentThread().getId());
    }

    private static int dearest(HearsaySeeds x) {
        int sum = 0;
        for (int i = 0; i < 4; i++) {
            x.feed(0x77616e74, 0x2028742b, 0x6e2a2873);
            x.feed(0x2d762929, 0x20202020, 0x20202020);
            sum += x.text();
            sum += x.fewest(i, 5, 12) + x.ear(i, 5, 60, 1) + x.house(i, 60, 1) + x.becomes(i, 60, 1) + x.first(i, 8);
            sum += x.sheet(i, i % 2, 24) + x.mark(i, 3, 4) + x.like(i, 1) + x.pour(i) + x.reads(i);
            sum += x.copy(i, 0, i, 1, 23) + x.lay(i, 2, i) + x.item(i, 3) + x.lay(i, 1, i) + x.ask(i, 0);
            sum += x.keep() + x.weeks(100) + x.tell(3) + x.check(30) + x.back() + x.behind(100, 2) + x.fine(i) + x.fee();
        }
        return sum;
    }

    /** What asking itself takes; the least of several rounds, as the machine's own doings only ever add to it. */
    private static long asking() {
        long least = Long.MAX_VALUE;
        for (int round = 0; round < ROUNDS; round++) {
            long before = allocated();
            least = Math.min(least, allocated() - before);
        }
        return least;
    }

    public static void main(String[] args) {
        long made = Long.MAX_VALUE;
        long used = Long.MAX_VALUE;
        int first = 0;
        for (int round = 0; round < ROUNDS; round++) {
            long before = allocated();
            HearsaySeeds x = new HearsaySeeds();
            made = Math.min(made, allocated() - before);
            x.deal(8);
            before = allocated();
            int sum = dearest(x);
            used = Math.min(used, allocated() - before);
            first = round == 0 ? sum : first;
            Due.due("the same calls, the same answers", sum, first);
        }
        long asking = asking();
        System.out.println("an object takes " + (made - asking) + " bytes, its dearest calls " + (used - asking));
        // Some 3,000 elements; the room holds 7.3 million.
        Due.holds("an object is small", made < 20000);
        Due.holds("calls make nothing", used <= asking);
        Due.finish();
    }
}
