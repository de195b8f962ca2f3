import com.sun.management.ThreadMXBean;
import java.lang.management.ManagementFactory;

/** All calls of a run live in one room: an object is small, and its calls make nothing more. */
public final class RoomTest {
    /** With those that fill the object, a run of as many as the document allows. */
    private static final int CALLS = 368;
    private static final ThreadMXBean ROOM = (ThreadMXBean) ManagementFactory.getThreadMXBean();

    private static long used() {
        return ROOM.getThreadAllocatedBytes(Thread.currentThread().getId());
    }

    private static void calls(WeighedMachines x) {
        for (int k = 0; k < CALLS / 16; k++) {
            x.compose(0, 1, 2);
            x.compose(0, 0, 0);
            x.bare(0, 2);
            x.push(1, 2);
            x.trim(1, 2);
            x.determine(1, 2);
            x.weigh(0, 11111111, 11111111);
            x.best(0);
            x.print(0);
            x.parse(3);
            x.arc(3, 0, 0, 0, 0);
            x.start(3, 0, 0);
            x.end(3, 0, 0);
            x.feed(0x4142434445464748L, 8);
            x.parse(3);
            x.fresh(3, 16);
        }
    }

    /** Slot 0 with 64 arcs and slot 1 with 60, by fewer calls than are left for the run. */
    private static WeighedMachines filled() {
        WeighedMachines x = new WeighedMachines();
        x.fresh(0, 1);
        x.start(0, 0, 1);
        x.end(0, 0, 1);
        for (int labels = 0; labels < 64; labels++) {
            x.arc(0, 0, 0, labels, 3);
        }
        x.fresh(1, 16);
        x.start(1, 0, 0);
        x.end(1, 15, 1);
        for (int k = 0; k < 60; k++) {
            int label = 1 + k % 4;
            x.arc(1, k / 4, k / 4 + 1, 9 * label, label);
        }
        return x;
    }

    public static void main(String[] args) {
        Check check = new Check();
        used();
        calls(filled());
        long before = used();
        WeighedMachines x = new WeighedMachines();
        long made = used() - before;
        check.due("a new object of " + made + " bytes is below 64 KiB", made < 1 << 16, true);
        x = filled();
        before = used();
        calls(x);
        long more = used() - before;
        check.due(CALLS + " calls that made " + more + " bytes are below 16 KiB", more < 1 << 14, true);
        check.finish();
    }
}
