import com.sun.management.ThreadMXBean;
import java.lang.management.ManagementFactory;

/** All calls of a run share one room: what a new object and its dearest calls make is weighed here. */
public final class RoomTest {
    private static final ThreadMXBean MEMORY = (ThreadMXBean) ManagementFactory.getThreadMXBean();

    public static void main(String[] args) {
        // each way once before it is weighed, as the machine makes objects of its own at first
        run(new MapRun(), true);
        long before = MEMORY.getCurrentThreadAllocatedBytes();
        MapRun x = new MapRun();
        long made = MEMORY.getCurrentThreadAllocatedBytes() - before;
        Check.yes("a new object: " + made + " bytes", made < 80_000);
        before = MEMORY.getCurrentThreadAllocatedBytes();
        run(x, false);
        long used = MEMORY.getCurrentThreadAllocatedBytes() - before;
        Check.yes("a run of dear calls: " + used + " bytes", used < 300_000);
        Check.end();
    }

    private static void run(MapRun x, boolean first) {
        for (int round = 0; round < 2; round++) {
            x.land(20, 20);
            x.gates(0, 0, 19, 19);
            for (int i = 0; i < 12; i++) {
                x.post(i, 19 - i, i);
            }
            x.course(true);
            x.course(false);
            for (int i = 0; i < 12; i++) {
                x.add(0, i, i, i);
                x.add(1, i, i, i);
            }
            for (int i = 0; i < 40; i++) {
                x.runner(i % 2, i % 10, 0);
            }
            x.go(100);
            x.draw(1, 5, 100);
            for (int i = 0; i < 100; i++) {
                x.event(1, i % 40, i % 12, i);
            }
            for (int i = 0; i < 5; i++) {
                x.best(0, 1000);
                x.way(0, 0, 19, 19);
                x.many(0, 0, 19, 19);
                x.judged(1, 8, 100);
                x.row(1, 100);
            }
            x.feed(0x73657420, 0x67617020, 0x3132333b, 0x20202020, 0x20202020);
            if (x.rules(20) != 0 || x.count(9) != 123) {
                Check.same(first ? "rules at first" : "rules", 1, 0);
            }
        }
    }
}
