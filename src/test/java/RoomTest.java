import com.sun.management.ThreadMXBean;
import java.lang.management.ManagementFactory;

/** Calls make nothing: all that they need is made with the object, and used again. */
public final class RoomTest {
    private static final ThreadMXBean THREADS = (ThreadMXBean) ManagementFactory.getThreadMXBean();

    private static long made() {
        return THREADS.getCurrentThreadAllocatedBytes();
    }

    public static void main(String[] args) {
        made();
        everyCall(new LeastRows());
        LeastRows x = new LeastRows();
        long before = made();
        for (int i = 0; i < 12; i++) {
            everyCall(x);
        }
        long byCalls = made() - before;
        Check.holds("calls made " + byCalls + " bytes", byCalls < 4096);
        before = made();
        new LeastRows();
        long byOne = made() - before;
        Check.holds("an object takes " + byOne + " bytes", byOne < 16384);
        Check.end();
    }

    /** 38 calls at the full size, and 18 more the first time; none of them throws, however often they are run. */
    private static void everyCall(LeastRows x) {
        x.size(10, 10);
        x.points(0, 9, 0, 9);
        while (x.count(2) < 10) {
            x.weigh(99);
        }
        for (int way = 0; way <= 2; way++) {
            x.find(way);
            x.looks(way);
            x.place(9, way);
        }
        x.put(0, 0, 9999);
        x.mend();
        x.undo();
        x.undo();
        x.keep(0);
        x.keep(1);
        x.goBack(1);
        x.append('7');
        x.firstError();
        x.load();
        x.append('7');
        x.clearBuffer();
        x.undo();
        x.unweigh();
        x.undo();
        x.cell(9, 9);
        x.bound();
        x.witness(3);
        x.count(7);
        x.weight(9);
        x.cost(5, 0);
        x.cost(5, 1);
        x.cut(10, 8);
        x.fewestParts(100000);
        x.halfShare();
        x.digest();
    }
}
