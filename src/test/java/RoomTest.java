import com.sun.management.ThreadMXBean;
import java.lang.management.ManagementFactory;

/** All calls of a run live in one room: an object makes its rows once, and its dearest calls make no more. */
public final class RoomTest {
    private static final Check CHECK = new Check("RoomTest");
    private static final int MOST_NEW = 8000;
    private static final int MOST_SEARCH = 64000;
    private static final int MOST_CALLS = 2000;

    public static void main(String[] args) {
        dear(Check.streetOf("smith 7;"), 3);
        BlownNext[] kept = new BlownNext[1];
        long start = allocated();
        kept[0] = new BlownNext();
        small("a new object", allocated() - start, MOST_NEW);
        BlownNext x = kept[0];
        Check.tell(x, "smith 7 heat 50 piece 20;smith 11 cool 3 piece 20;smith 13 cool 2 piece 20;burnt 2;");
        Check.row(x, 0, 3, 1, 2, 4);
        start = allocated();
        x.soonest();
        small("the first search", allocated() - start, MOST_SEARCH);
        start = allocated();
        dear(x, 20);
        small("calls behind it", allocated() - start, MOST_CALLS);
        CHECK.end();
    }

    private static long allocated() {
        return ((ThreadMXBean) ManagementFactory.getThreadMXBean()).getCurrentThreadAllocatedBytes();
    }

    private static void small(String what, long bytes, long most) {
        CHECK.due(what + " takes " + bytes + " bytes, at most " + most, bytes <= most ? 1 : 0, 1);
    }

    private static void dear(BlownNext x, int times) {
        for (int k = 0; k < times; k++) {
            x.feed(0x20202020, 0x20202020, 0x20202020, 0x20202020, 0x20202020);
            x.fault(0);
            x.soonest();
            x.ropes(0);
            x.bestRound(3, 0);
            x.bestWave(12);
            x.swapped(60, 0);
            x.bestPlace(30, 60);
            x.peace(0);
            x.selfish(-1);
            x.seen(0);
            x.sure(0, true);
            x.holds(0, 12, 0);
            x.judge(0, 2);
            x.image(0);
            x.live(3);
            x.day(k, 3);
            x.restore(0);
            x.numbers(1, 3, 40);
            x.copy(1);
            x.when(0);
        }
        x.street(3);
    }
}
