import java.util.ArrayList;
import java.util.Arrays;
import java.util.List;
import java.util.TreeSet;

/** The document's face once more: a list of actions, and each answer looked up in Naive. */
final class Model {
    private static final int LIMIT = 12000;

    private final List<List<int[]>> threads = new ArrayList<>();
    /** Of each kind what Naive finds; null where the program has changed since. */
    private final Naive[] naive = new Naive[4];

    Model() {
        for (int t = 0; t < 4; t++) {
            threads.add(new ArrayList<>());
        }
    }

    int action(int thread, int what, int place, int n) {
        boolean isDigits = place >= 0 && place <= 3 && n >= 0 && n <= 3;
        boolean isAction = what == 0 || what == 1 || what == 3 || what == 2 && place == 0 && n == 0;
        if (thread < 0 || thread > 3 || !isDigits || !isAction) {
            throw new IllegalArgumentException();
        }
        if (threads.get(thread).size() == 5) {
            throw new UnsupportedOperationException();
        }
        threads.get(thread).add(new int[] {what, place, n});
        Arrays.fill(naive, null);
        return threads.get(thread).size();
    }

    void clear() {
        threads.forEach(List::clear);
        Arrays.fill(naive, null);
    }

    /** A copy of the program, as the naive machine may not see later actions. */
    private Naive of(int kind) {
        if (kind < 0 || kind > 3) {
            throw new IllegalArgumentException();
        }
        if (naive[kind] == null) {
            List<List<int[]>> copy = new ArrayList<>();
            for (List<int[]> actions : threads) {
                copy.add(new ArrayList<>(actions));
            }
            naive[kind] = new Naive(kind, copy, LIMIT);
        }
        if (naive[kind].crowded) {
            throw new UnsupportedOperationException();
        }
        return naive[kind];
    }

    int outcomes(int kind) {
        return of(kind).outcomes.size();
    }

    long outcome(int kind, int k) {
        List<Long> outcomes = new ArrayList<>(of(kind).outcomes.keySet());
        if (k < 0 || k >= outcomes.size()) {
            throw new IndexOutOfBoundsException();
        }
        return outcomes.get(k);
    }

    int states(int kind) {
        return of(kind).states;
    }

    int row(int kind, int k, int i) {
        List<Integer> steps = of(kind).outcomes.get(outcome(kind, k));
        if (i < 0) {
            throw new IndexOutOfBoundsException();
        }
        return i < steps.size() ? steps.get(i) : -1;
    }

    int cuts(int kind) {
        return of(kind).cuts.size();
    }

    int cut(int kind, int k) {
        List<Integer> cuts = new ArrayList<>(of(kind).cuts);
        if (k < 0 || k >= cuts.size()) {
            throw new IndexOutOfBoundsException();
        }
        return cuts.get(k);
    }

    boolean allows(int kind, long outcome) {
        return of(kind).outcomes.containsKey(outcome);
    }

    long differs(int kind, int other) {
        if (kind < 0 || kind > 3 || other < 0 || other > 3) {
            throw new IllegalArgumentException();
        }
        TreeSet<Long> one = new TreeSet<>(of(kind).outcomes.keySet());
        TreeSet<Long> two = new TreeSet<>(of(other).outcomes.keySet());
        one.removeAll(of(other).outcomes.keySet());
        two.removeAll(of(kind).outcomes.keySet());
        one.addAll(two);
        return one.isEmpty() ? -1 : one.first();
    }

    int soonest(int kind, int p, int v) {
        if (p < 0 || p > 3 || v < 0 || v > 3) {
            throw new IllegalArgumentException();
        }
        return of(kind).soonest[p][v];
    }

    int stuck(int kind) {
        return of(kind).stuck;
    }

    int count(int what) {
        int actions = 0;
        int some = 0;
        int[] ofWhat = new int[4];
        for (List<int[]> thread : threads) {
            actions += thread.size();
            some += thread.isEmpty() ? 0 : 1;
            for (int[] action : thread) {
                ofWhat[action[0]]++;
            }
        }
        int[] counts = {actions, some, ofWhat[0], ofWhat[1], ofWhat[2], ofWhat[3]};
        return what < 0 || what >= counts.length ? -1 : counts[what];
    }
}
