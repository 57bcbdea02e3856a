import com.sun.management.ThreadMXBean;
import java.lang.management.ManagementFactory;
import java.util.Random;

/** All calls of one run share one room, so calls make nothing, and even 512 objects fit well into it. */
public final class RoomTest {
    private static final Check CHECK = new Check();
    private static final ThreadMXBean THREADS = (ThreadMXBean) ManagementFactory.getThreadMXBean();
    // Some bytes are left for what the measuring makes itself.
    private static final long SLACK = 4096;

    public static void main(String[] args) {
        callsMakeNothing();
        objectsAreSmall();
        CHECK.finish();
    }

    private static long bytesMade() {
        return THREADS.getThreadAllocatedBytes(Thread.currentThread().getId());
    }

    private static WeightedClauses busyOne() {
        WeightedClauses x = new WeightedClauses(10);
        Random random = new Random(7);
        while (x.clauses() < 40) {
            int v = random.nextInt(8);
            x.clause(1 + random.nextInt(9), 2 * v + random.nextInt(2), 2 * v + 2 + random.nextInt(2),
                    random.nextInt(2) == 0 ? -1 : 18 + random.nextInt(2), -1);
        }
        return x;
    }

    private static long allCalls(WeightedClauses x, int turns) {
        long sum = 0;
        for (int i = 0; i < turns; i++) {
            sum += x.solve() + x.nodes() + x.logged() + x.log(0, 0) + x.log(0, 1) + x.best(0) + x.value(3);
            sum += x.cost(5, 1) + x.bound(5, 1) + x.subset(5, 1, 0) + x.first(5, 1);
            sum += x.weigh(3, 5) + x.drop() + x.clause(3, 1, 4, -1, -1) + x.clauses() + x.variables();
        }
        return sum;
    }

    private static void callsMakeNothing() {
        WeightedClauses x = busyOne();
        allCalls(x, 2);
        bytesMade();
        long before = bytesMade();
        allCalls(x, 32);
        long made = bytesMade() - before;
        CHECK.due("512 calls made " + made + " bytes, too many", made > SLACK ? 1 : 0, 0);
    }

    private static void objectsAreSmall() {
        new WeightedClauses(10);
        long before = bytesMade();
        new WeightedClauses(10);
        long made = bytesMade() - before;
        // 7.3 million elements of 4 bytes or more for 512 objects are 57,000 bytes for each.
        CHECK.due("an object is made of " + made + " bytes, too many", made > 16384 ? 1 : 0, 0);
    }
}
