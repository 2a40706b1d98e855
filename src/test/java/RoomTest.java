import com.sun.management.ThreadMXBean;
import java.lang.management.ManagementFactory;

/** The room of a run: what the constructor makes is small, and no call makes anything. */
public final class RoomTest {
    private static final ThreadMXBean THREADS = (ThreadMXBean) ManagementFactory.getThreadMXBean();
    private static final String TEXT = "pay -(weight+1)*2<3 and not kind=4 or missed;fine price-wet;find day;";

    private RoomTest() {
    }

    private static long made() {
        return THREADS.getThreadAllocatedBytes(Thread.currentThread().getId());
    }

    public static void main(String[] args) {
        dearCalls(new DustYards());
        long idle = -made() + made();
        long before = made();
        DustYards x = new DustYards();
        long constructed = made() - before - idle;
        before = made();
        dearCalls(x);
        long called = made() - before - idle;
        System.out.println("bytes made by the constructor: " + constructed + ", by calls: " + called);
        Due.is("the constructor makes little", constructed < 32000 ? 1 : 0, 1);
        Due.is("calls make next to nothing", called < 1000 ? 1 : 0, 1);
        Due.end();
    }

    private static void dearCalls(DustYards x) {
        for (int i = 0; i < 40; i++) {
            x.cart(i % 6, 0, i % 5, 9999, 0, 9999);
            x.price(0, 0, i);
            x.find(i, 0, 1);
            x.contract(0, 0, 0);
            x.door(0, 999, 0, 0);
            x.miss(i);
            x.barge(i + 1, i);
            x.buyer(i, i);
            x.row(i, i);
            x.wins(i % 10, i % 5, i);
            x.sheet(i % 4, i % 3, 40);
            x.cell(i % 4, i, i);
        }
        for (int i = 0; i < 5; i++) {
            Due.feed(x, TEXT);
            x.text();
        }
        x.contract(0, 0, 1);
        x.owed(0, 0, 399);
        x.finds(0);
        x.rounds(0, 5000, 99999);
        x.laid(31, -1);
        x.tide(99999, 0);
        x.parted(-1);
        x.bid(0, 0, 399, -1);
        x.copy(0, 0, 0, 1, 39);
        x.prices(0, 0, 0, 0, 0, 40);
        x.sift(0, 99999);
        x.fire(1, 50);
        x.taken(0, 0);
    }
}
