import com.sun.management.ThreadMXBean;
import java.lang.management.ManagementFactory;

/** All calls of one run live in one room: rows are made by the constructor and used again. */
public final class RoomTest {
    private static final ThreadMXBean THREADS = (ThreadMXBean) ManagementFactory.getThreadMXBean();
    private static final long MOST_MADE = 600_000;
    private static final long MOST_ADDED = 20_000;

    public static void main(String[] args) {
        dearRun();
        long before = allocated();
        int[] row = new int[50_000];
        Check.that("what is made is seen", allocated() - before >= 4L * row.length);
        before = allocated();
        Ticketdoor x = told();
        long made = allocated() - before;
        before = allocated();
        int calls = dearCalls(x);
        long added = allocated() - before;
        System.out.println("made " + made + " bytes, then " + added + " in " + calls + " calls");
        Check.that("little is made", made < MOST_MADE);
        Check.that("and nearly nothing added", added < MOST_ADDED);
        Check.due("all calls of an object", 512, () -> calls + 45);
        Check.finish("RoomTest");
    }

    private static long allocated() {
        return THREADS.getThreadAllocatedBytes(Thread.currentThread().getId());
    }

    private static void dearRun() {
        dearCalls(told());
    }

    /** A thousand states of three hands that are never at rest, and six calls in any order: 45 calls. */
    private static Ticketdoor told() {
        Ticketdoor x = new Ticketdoor();
        x.addWord(0, true, 9);
        String[] programs = {"t; z 0; i; o; o; j 0 0 0", "t; o; o; i; o; o; o; o; j 0 0 0", "r 0 0; w 0 0; j 0 0 0"};
        for (String program : programs) {
            Check.steps(x, x.addHand(), program);
        }
        for (int call = 0; call < 6; call++) {
            x.addCall('w', call, 0, 9);
        }
        for (int call = 0; call < 17; call++) {
            x.act(call % 3, 0);
        }
        return x;
    }

    private static int dearCalls(Ticketdoor x) {
        int calls = 0;
        long sum = 0;
        for (int round = 0; calls < 460; round++) {
            x.setDeath(0, round % 2 - 1);
            x.setBuffers(round % 3 == 0);
            if (x.isSound() && round % 2 == 0) {
                sum += x.countStates() + x.countOutcomes() + x.overtakes(0, 1) + x.overtakes(1, 0) + x.countUndecided();
                sum += (x.canStarve(0) ? 1 : 0) + (x.canStarve(1) ? 1 : 0) + (x.canStarve(2) ? 1 : 0) + x.getState();
                calls += 9;
            }
            sum += x.movesAlone(2) + x.countOrders() + x.orderAt(5) + x.checksum();
            calls += 7;
        }
        for (; calls < 467; calls++) {
            sum += x.countOrders();
        }
        if (sum == 42) {
            System.out.println("so that no call is left out");
        }
        return calls;
    }
}
