import com.sun.management.ThreadMXBean;
import java.lang.management.ManagementFactory;

/** All calls of a run live in one room: asking and filling make no objects, nor does a LINE told again. */
public final class RoomTest {
    private static final int TURNS = 20000;

    private final ThreadMXBean threads = (ThreadMXBean) ManagementFactory.getThreadMXBean();
    private final WeightOrder x = new WeightOrder();

    public static void main(String[] args) {
        Check check = new Check();
        RoomTest test = new RoomTest();
        test.prepare();
        test.allCalls();
        long before = test.allocated();
        for (int turn = 0; turn < TURNS; turn++) {
            test.allCalls();
        }
        long bytes = test.allocated() - before;
        // The least object takes 16 bytes; what the measuring itself takes stays far below one for each turn.
        check.due("true", bytes + " bytes in " + TURNS + " turns are less than one object each",
                "" + (bytes < 16L * TURNS));
        before = test.allocated();
        WeightOrder other = new WeightOrder();
        bytes = test.allocated() - before;
        check.due("true", bytes + " bytes for a new object are less than 100,000", "" + (bytes < 100000));
        check.answers(0, "a new object", () -> other.count(0, false));
        check.end();
    }

    private long allocated() {
        return threads.getThreadAllocatedBytes(Thread.currentThread().getId());
    }

    private void prepare() {
        for (int point = 1; point < 10; point++) {
            x.line(1, point, 0, 0);
            x.element(point, 1, 1, point == 3);
            x.order(point, point - 1);
            x.line(2, 1, point, 0);
            x.line(3, 1, point, 9);
        }
        for (int k = 0; k < 20; k++) {
            x.add(0, 1 + k * k % 12);
            x.add(1, 1 + k * k % 11);
        }
    }

    private void allCalls() {
        x.order(5, 4);
        x.line(3, 1, 5, 9);
        x.element(7, 7, 7, true);
        x.add(2, 5);
        x.clear(2);
        x.count(0, true);
        x.weight(1, true, 3, 3);
        x.compare(0, 1, 4, true);
        x.compare(1, 0, 4, false);
    }
}
