import java.util.ArrayList;
import java.util.Arrays;
import java.util.HashMap;
import java.util.List;
import java.util.Map;
import java.util.TreeMap;
import java.util.TreeSet;

/**
 * The document's machines once more, slow and plain, with lists and texts in place of bits: what
 * the class is compared with. It shares nothing with the class.
 */
final class Naive {
    final TreeMap<Long, List<Integer>> outcomes = new TreeMap<>();
    final TreeSet<Integer> cuts = new TreeSet<>();
    final int[][] soonest = new int[4][4];
    int states = 0;
    int stuck = 0;
    boolean crowded = false;

    private final int kind;
    private final List<List<int[]>> threads;

    private static final class State {
        int[] done = new int[4];
        int[][] registers = new int[4][4];
        int[] places = new int[4];
        List<List<int[]>> buffers = new ArrayList<>();

        State() {
            for (int b = 0; b < 4; b++) {
                buffers.add(new ArrayList<>());
            }
        }

        State copy() {
            State s = new State();
            s.done = done.clone();
            s.places = places.clone();
            for (int t = 0; t < 4; t++) {
                s.registers[t] = registers[t].clone();
                for (int[] entry : buffers.get(t)) {
                    s.buffers.get(t).add(entry.clone());
                }
            }
            return s;
        }

        String key() {
            StringBuilder text = new StringBuilder(Arrays.toString(done));
            text.append(Arrays.deepToString(registers)).append(Arrays.toString(places));
            for (List<int[]> buffer : buffers) {
                text.append('|');
                for (int[] entry : buffer) {
                    text.append(Arrays.toString(entry));
                }
            }
            return text.toString();
        }
    }

    /** Each thread's actions as {what, place, n}. */
    Naive(int kind, List<List<int[]>> threads, int limit) {
        this.kind = kind;
        this.threads = threads;
        for (int[] row : soonest) {
            Arrays.fill(row, -1);
        }
        explore(limit);
    }

    /**
     * Level by level: all states of one depth with their least words are known before the next
     * depth begins, and words are compared as words, so no order of finding matters.
     */
    private void explore(int limit) {
        Map<String, Integer> depthOf = new HashMap<>();
        Map<String, State> level = new HashMap<>();
        Map<String, List<Integer>> words = new HashMap<>();
        State first = new State();
        level.put(first.key(), first);
        words.put(first.key(), new ArrayList<>());
        depthOf.put(first.key(), 0);
        for (int depth = 0; !level.isEmpty(); depth++) {
            Map<String, State> nextLevel = new HashMap<>();
            Map<String, List<Integer>> nextWords = new HashMap<>();
            for (Map.Entry<String, State> entry : level.entrySet()) {
                State state = entry.getValue();
                List<Integer> word = words.get(entry.getKey());
                see(state, depth, word);
                int ways = 0;
                for (int step = 0; step < 24; step++) {
                    State next = go(state, step);
                    if (next == null) {
                        continue;
                    }
                    ways++;
                    String key = next.key();
                    Integer known = depthOf.get(key);
                    if (known != null && known <= depth) {
                        continue;
                    }
                    List<Integer> longer = new ArrayList<>(word);
                    longer.add(step);
                    depthOf.put(key, depth + 1);
                    nextLevel.put(key, next);
                    List<Integer> other = nextWords.get(key);
                    if (other == null || isBefore(longer, other)) {
                        nextWords.put(key, longer);
                    }
                }
                if (ways == 0 && !isEnd(state)) {
                    stuck++;
                }
            }
            if (depthOf.size() > limit) {
                crowded = true;
                return;
            }
            level = nextLevel;
            words = nextWords;
        }
    }

    private void see(State state, int depth, List<Integer> word) {
        states++;
        int cut = 0;
        for (int p = 0; p < 4; p++) {
            cut = cut * 4 + state.places[p];
            if (soonest[p][state.places[p]] < 0) {
                soonest[p][state.places[p]] = depth;
            }
        }
        cuts.add(cut);
        if (isEnd(state)) {
            long outcome = 0;
            for (int t = 0; t < 4; t++) {
                for (int r = 0; r < 4; r++) {
                    outcome = outcome * 4 + state.registers[t][r];
                }
            }
            outcomes.put(outcome * 256 + cut, word);
        }
    }

    private boolean isEnd(State state) {
        for (int t = 0; t < 4; t++) {
            if (state.done[t] < threads.get(t).size() || !state.buffers.get(t).isEmpty()) {
                return false;
            }
        }
        return true;
    }

    private static boolean isBefore(List<Integer> a, List<Integer> b) {
        for (int i = 0; i < a.size(); i++) {
            if (!a.get(i).equals(b.get(i))) {
                return a.get(i) < b.get(i);
            }
        }
        return false;
    }

    private State go(State state, int step) {
        if (step < 4) {
            return act(state, step);
        }
        if (kind == 1 && step < 8) {
            return drain(state, step - 4, -1);
        }
        if (kind == 3 && step < 6) {
            return drain(state, step - 4, -1);
        }
        if (kind == 2 && step >= 8) {
            return drain(state, (step - 8) / 4, (step - 8) % 4);
        }
        return null;
    }

    private State act(State state, int t) {
        if (state.done[t] == threads.get(t).size()) {
            return null;
        }
        int[] action = threads.get(t).get(state.done[t]);
        State next = state.copy();
        next.done[t]++;
        List<int[]> buffer = next.buffers.get(kind == 3 ? t / 2 : t);
        if (action[0] == 0 && kind != 0) {
            if (buffer.size() == 3) {
                return null;
            }
            buffer.add(new int[] {action[1], action[2]});
        } else if (action[0] == 0) {
            next.places[action[1]] = action[2];
        } else if (action[0] == 1) {
            int number = next.places[action[1]];
            for (int[] entry : buffer) {
                if (entry[0] == action[1]) {
                    number = entry[1];
                }
            }
            next.registers[t][action[2]] = number;
        } else {
            if (!buffer.isEmpty()) {
                return null;
            }
            if (action[0] == 3) {
                next.places[action[1]] = action[2];
            }
        }
        return next;
    }

    private static State drain(State state, int b, int place) {
        State next = state.copy();
        List<int[]> buffer = next.buffers.get(b);
        for (int i = 0; i < buffer.size(); i++) {
            if (place < 0 || buffer.get(i)[0] == place) {
                int[] entry = buffer.remove(i);
                next.places[entry[0]] = entry[1];
                return next;
            }
        }
        return null;
    }
}
