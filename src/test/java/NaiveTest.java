import java.util.ArrayList;
import java.util.List;
import java.util.TreeSet;

/** Many programs, each asked of the class and of the naive machines: all answers agree. */
public final class NaiveTest {
    private static final int PROGRAMS = 400;
    private static final int LIMIT = 12000;

    private static long seed = 20261115;
    private static int crowdedKinds = 0;
    private static int manyOutcomes = 0;
    private static int differences = 0;

    /** A fixed row of numbers, so that a failure comes again. */
    private static int pick(int below) {
        seed = seed * 6364136223846793005L + 1442695040888963407L;
        return (int) ((seed >>> 33) % below);
    }

    public static void main(String[] args) {
        Due due = new Due("NaiveTest");
        OrderMachines x = new OrderMachines();
        for (int n = 0; n < PROGRAMS; n++) {
            // Each object serves some programs, so that what is kept of one may not show in the next.
            if (n % 5 == 0) {
                x = new OrderMachines();
            } else {
                x.clear();
            }
            List<List<int[]>> threads = program(x, 2 + pick(12));
            String told = "program " + n + ": " + told(threads);
            Naive[] naive = new Naive[4];
            for (int kind = 0; kind < 4; kind++) {
                naive[kind] = new Naive(kind, threads, LIMIT);
                compare(due, x, kind, naive[kind], told + "kind " + kind + ": ");
            }
            compareKinds(due, x, naive, told);
        }
        due.that("some kinds had no room", crowdedKinds > 0);
        due.that("some kinds had more than hundred outcomes", manyOutcomes > 0);
        due.that("some kinds differed", differences > 100);
        due.end();
    }

    private static List<List<int[]>> program(OrderMachines x, int actions) {
        List<List<int[]>> threads = new ArrayList<>();
        for (int t = 0; t < 4; t++) {
            threads.add(new ArrayList<>());
        }
        int used = 1 + pick(4);
        int places = 1 + pick(4);
        for (int i = 0; i < actions; i++) {
            int thread = used == 1 ? pick(4) : pick(used);
            int what = "0000011112233".charAt(pick(13)) - '0';
            int place = what == 2 ? 0 : pick(places);
            int number = what == 2 ? 0 : pick(4);
            if (threads.get(thread).size() < 5) {
                threads.get(thread).add(new int[] {what, place, number});
                x.action(thread, what, place, number);
            }
        }
        return threads;
    }

    private static String told(List<List<int[]>> threads) {
        StringBuilder text = new StringBuilder();
        for (int t = 0; t < 4; t++) {
            for (int[] a : threads.get(t)) {
                text.append("(" + t + "," + a[0] + "," + a[1] + "," + a[2] + ") ");
            }
        }
        return text.toString();
    }

    private static void compareKinds(Due due, OrderMachines x, Naive[] naive, String told) {
        for (int kind = 0; kind < 4; kind++) {
            for (int other = 0; other < 4; other++) {
                int a = kind;
                int b = other;
                if (naive[a].crowded || naive[b].crowded) {
                    due.thrown(told + "differs " + a + ", " + b, UnsupportedOperationException.class, () -> x.differs(a, b));
                    continue;
                }
                TreeSet<Long> one = new TreeSet<>(naive[a].outcomes.keySet());
                TreeSet<Long> two = new TreeSet<>(naive[b].outcomes.keySet());
                one.removeAll(naive[b].outcomes.keySet());
                two.removeAll(naive[a].outcomes.keySet());
                one.addAll(two);
                long least = one.isEmpty() ? -1 : one.first();
                due.answer(told + "differs " + a + ", " + b, least, () -> x.differs(a, b));
                differences += least < 0 ? 0 : 1;
            }
        }
    }

    private static void compare(Due due, OrderMachines x, int kind, Naive naive, String told) {
        if (naive.crowded) {
            crowdedKinds++;
            due.thrown(told + "states", UnsupportedOperationException.class, () -> x.states(kind));
            return;
        }
        due.answer(told + "states", naive.states, () -> x.states(kind));
        due.answer(told + "stuck", naive.stuck, () -> x.stuck(kind));
        due.answer(told + "outcomes", naive.outcomes.size(), () -> x.outcomes(kind));
        due.answer(told + "cuts", naive.cuts.size(), () -> x.cuts(kind));
        manyOutcomes += naive.outcomes.size() > 100 ? 1 : 0;
        int k = 0;
        for (long outcome : naive.outcomes.keySet()) {
            int at = k;
            due.answer(told + "outcome " + k, outcome, () -> x.outcome(kind, at));
            due.answer(told + "allows " + outcome, 1, () -> x.allows(kind, outcome) ? 1 : 0);
            long near = outcome + 1;
            due.answer(told + "allows " + near, naive.outcomes.containsKey(near) ? 1 : 0, () -> x.allows(kind, near) ? 1 : 0);
            List<Integer> word = naive.outcomes.get(outcome);
            for (int i = 0; i <= word.size(); i++) {
                int step = i;
                due.answer(told + "row " + k + ", " + i, i < word.size() ? word.get(i) : -1, () -> x.row(kind, at, step));
            }
            k++;
        }
        k = 0;
        for (int cut : naive.cuts) {
            int at = k;
            due.answer(told + "cut " + k, cut, () -> x.cut(kind, at));
            k++;
        }
        for (int p = 0; p < 4; p++) {
            for (int v = 0; v < 4; v++) {
                int place = p;
                int number = v;
                due.answer(told + "soonest " + p + ", " + v, naive.soonest[p][v], () -> x.soonest(kind, place, number));
            }
        }
    }
}
