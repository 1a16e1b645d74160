import java.lang.management.ManagementFactory;

/** All calls of a run live in one room, so no call but addLayer may make anything. */
public final class RoomTest {
    private static final int CALLS = 400;
    private static final long MOST_BYTES_A_CALL = 64;

    private static CairnIndex crowded() {
        CairnIndex index = Made.empty(true, false, true, false);
        index.setSize(0, 1);
        index.setSize(1, 2);
        for (int i = 0; i < 40; i++) {
            index.addPoint(i % 2 * 2, i * 100 % 1000, i * 37 % 1000, 0);
            index.addBox(i % 2 * 2 + 1, i * 100 % 800, i * 37 % 800, i, i, 0);
        }
        return index;
    }

    private static long allocated() {
        java.lang.management.ThreadMXBean bean = ManagementFactory.getThreadMXBean();
        return bean instanceof com.sun.management.ThreadMXBean
                ? ((com.sun.management.ThreadMXBean) bean).getThreadAllocatedBytes(Thread.currentThread().getId())
                : 0;
    }

    private static long answerAll(CairnIndex index, int call) {
        long sum = index.pack(1) + index.pack(3) + index.digest();
        sum += index.move(call % 80, call, call) + index.setSize(0, 1 + call % 8);
        sum += index.visitedPacked(1, 0, 0, 1023, 1023) + index.visitedPairs(0, 2, 3000000);
        return sum + index.pairs(0, 1, 900) + index.level(1, 0) + index.leaf(0, call, call, 3);
    }

    public static void main(String[] args) {
        CairnIndex index = crowded();
        answerAll(index, 0);
        allocated();
        long before = allocated();
        long sum = 0;
        for (int call = 0; call < CALLS; call++) {
            sum += answerAll(index, call);
        }
        long made = allocated() - before;
        Checks.holds("the calls made " + made + " bytes (answers " + sum + ")", made <= CALLS * MOST_BYTES_A_CALL);
        Checks.end();
    }
}
