import com.sun.management.ThreadMXBean;
import java.lang.management.ManagementFactory;

/** The edge of 12000 states, kind by kind, and how little a long run of calls makes. */
public final class RoomTest {
    private static final String[] FULL = {
        "1101 0001 2302 3103 3103 0001 2100 1001 2101 2200 1101 2001 3102 3001 0002",
        "0001 0001 0001 1011 1011 1011 2021 2021 2021 3200 3200 3031 3031 3031",
        "0002 0003 0013 0013 3000 3321 3112 1200 3021 1023 0101 2010 3002",
        "1001 2001 3002 3301 0101 1002 2000 1301 2003 2000 0100 2001",
    };
    private static final String[] OVER = {
        "1001 3003 1003 0103 2101 1001 2002 3003 0200 2102 2200 2003 1003 0100",
        "2002 0110 3001 2012 3000 0113 1011 1300 2002 0311 2101 0001",
        "0030 1000 0113 3012 0021 0031 3123 1012 0003 2032 2200 2200",
        "0001 1102 1001 2102 3003 2302 1000 1100 2001 0002",
    };
    private static final int CALLS = 512;
    /** Far below the room of 7.3 million elements for all calls of a run. */
    private static final long MOST_BYTES = 4_000_000;

    public static void main(String[] args) {
        Due due = new Due("RoomTest");
        for (int kind = 0; kind < 4; kind++) {
            int k = kind;
            OrderMachines full = Programs.made(FULL[kind]);
            due.answer("just full " + kind, 12000, () -> full.states(k));
            Naive naive = new Naive(kind, Programs.threads(FULL[kind]), 12000);
            due.that("just full for the naive one " + kind, !naive.crowded && naive.states == 12000);
            due.answer("outcomes of the just full " + kind, naive.outcomes.size(), () -> full.outcomes(k));
            due.answer("cuts of the just full " + kind, naive.cuts.size(), () -> full.cuts(k));
            OrderMachines over = Programs.made(OVER[kind]);
            due.thrown("one over " + kind, UnsupportedOperationException.class, () -> over.states(k));
            due.that("one over for the naive one " + kind, new Naive(kind, Programs.threads(OVER[kind]), 12001).states == 12001);
            over.clear();
            Programs.add(over, FULL[kind]);
            due.answer("full after one over " + kind, 12000, () -> over.states(k));
            due.answer("last step of its last row " + kind, -1, () -> over.row(k, over.outcomes(k) - 1, 40));
        }
        longRun(due);
        due.end();
    }

    private static void longRun(Due due) {
        ThreadMXBean threads = (ThreadMXBean) ManagementFactory.getThreadMXBean();
        long thread = Thread.currentThread().getId();
        OrderMachines warm = Programs.made(FULL[1]);
        warm.differs(1, 0);
        long before = threads.getThreadAllocatedBytes(thread);
        OrderMachines x = new OrderMachines();
        int calls = 0;
        int kind = 0;
        while (calls < CALLS - 20) {
            x.clear();
            calls++;
            for (String a : FULL[kind].split(" ")) {
                x.action(a.charAt(0) - '0', a.charAt(1) - '0', a.charAt(2) - '0', a.charAt(3) - '0');
                calls++;
            }
            x.outcomes(kind);
            x.cuts(kind);
            calls += 2;
            kind = (kind + 1) % 4;
        }
        long made = threads.getThreadAllocatedBytes(thread) - before;
        due.that("a long run makes " + made + " bytes, at most " + MOST_BYTES, made <= MOST_BYTES);
        before = threads.getThreadAllocatedBytes(thread);
        new OrderMachines();
        made = threads.getThreadAllocatedBytes(thread) - before;
        due.that("a new object makes " + made + " bytes, at most 20000", made <= 20000);
    }
}
