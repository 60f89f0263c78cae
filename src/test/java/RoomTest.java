import com.sun.management.ThreadMXBean;
import java.lang.management.ManagementFactory;

/** The edge of 12000 states, kind by kind, and how little a long run of calls makes. */
public final class RoomTest {
    private static final int CALLS = 512;
    /** Far below the room of 7.3 million elements for all calls of a run. */
    private static final long MOST_BYTES = 4_000_000;

    public static void main(String[] args) {
        Due due = new Due("RoomTest");
        for (int kind = 0; kind < 4; kind++) {
            int k = kind;
            OrderMachines full = Programs.made(Programs.FULL[kind]);
            due.answer("just full " + kind, 12000, () -> full.states(k));
            Naive naive = new Naive(kind, Programs.threads(Programs.FULL[kind]), 12000);
            due.that("just full for the naive one " + kind, !naive.crowded && naive.states == 12000);
            due.answer("outcomes of the just full " + kind, naive.outcomes.size(), () -> full.outcomes(k));
            due.answer("cuts of the just full " + kind, naive.cuts.size(), () -> full.cuts(k));
            OrderMachines over = Programs.made(Programs.OVER[kind]);
            due.thrown("one over " + kind, UnsupportedOperationException.class, () -> over.states(k));
            due.that("one over for the naive one " + kind, new Naive(kind, Programs.threads(Programs.OVER[kind]), 12001).states == 12001);
            over.clear();
            Programs.add(over, Programs.FULL[kind]);
            due.answer("full after one over " + kind, 12000, () -> over.states(k));
            due.answer("last step of its last row " + kind, -1, () -> over.row(k, over.outcomes(k) - 1, 40));
        }
        longRun(due);
        due.end();
    }

    private static void longRun(Due due) {
        ThreadMXBean threads = (ThreadMXBean) ManagementFactory.getThreadMXBean();
        long thread = Thread.currentThread().getId();
        OrderMachines warm = Programs.made(Programs.FULL[1]);
        warm.differs(1, 0);
        long before = threads.getThreadAllocatedBytes(thread);
        OrderMachines x = new OrderMachines();
        int calls = 0;
        int kind = 0;
        while (calls < CALLS - 20) {
            x.clear();
            calls++;
            for (String a : Programs.FULL[kind].split(" ")) {
                x.action(a.charAt(0) - '0', a.charAt(1) - '0', a.charAt(2) - '0', a.charAt(3) - '0');
                calls++;
            }
            x.outcomes(kind);
            x.cuts(kind);
            calls += 2;
            kind = (kind + 1) % 4;
        }
        long made = threads.getThreadAllocatedBytes(thread) - before;
        due.that("a long run makes " + made + " bytes, at most " + MOST_BYTES, made <= MOST_BYTES);
        before = threads.getThreadAllocatedBytes(thread);
        new OrderMachines();
        made = threads.getThreadAllocatedBytes(thread) - before;
        due.that("a new object makes " + made + " bytes, at most 20000", made <= 20000);
    }
}
