import java.util.Arrays;

/**
 * Machines of memory for small programs of several threads: every state that a program can come
 * to on a machine of some kind, what comes out at the ends, and by which shortest row of steps.
 */
public final class OrderMachines {
    /** Nothing there. */
    public static final int NONE = -1;

    private static final int KINDS = 4;
    private static final int KIND_PLAIN = 0;
    private static final int KIND_PLACES = 2;
    private static final int KIND_PAIRS = 3;

    private static final int THREADS = 4;
    private static final int MOST_ACTIONS = 5;
    private static final int MOST_STATES = 12000;
    /** Above every row: twenty actions, and each of them drained once at most. */
    private static final int MOST_STEPS = 2 * THREADS * MOST_ACTIONS;

    /** Places, registers of a thread and numbers are all digits to this base. */
    private static final int BASE = 4;
    private static final int CUTS_IN_ALL = BASE * BASE * BASE * BASE;

    private static final int WRITE = 0;
    private static final int READ = 1;
    private static final int FENCE = 2;
    private static final int WRITE_THROUGH = 3;

    private final Program program;
    private final Explorer explorer;
    private final Findings[] findings;

    public OrderMachines() {
        program = new Program();
        explorer = new Explorer(program);
        findings = new Findings[KINDS];
        for (int kind = 0; kind < KINDS; kind++) {
            findings[kind] = new Findings();
        }
    }

    public int action(int thread, int what, int place, int n) throws IllegalArgumentException, UnsupportedOperationException {
        if (!Program.canBe(thread, what, place, n)) {
            throw new IllegalArgumentException("no such action");
        }
        if (program.lengthOf(thread) >= MOST_ACTIONS) {
            throw new UnsupportedOperationException("the thread has five actions");
        }
        program.append(thread, what, place, n);
        forgetFindings();
        return program.lengthOf(thread);
    }

    public void clear() {
        program.dropAll();
        forgetFindings();
    }

    public int outcomes(int kind) throws IllegalArgumentException, UnsupportedOperationException {
        return explored(kind).endCount;
    }

    public long outcome(int kind, int k) throws IllegalArgumentException, UnsupportedOperationException, IndexOutOfBoundsException {
        Findings found = explored(kind);
        if (!found.hasEnd(k)) {
            throw new IndexOutOfBoundsException("no such outcome");
        }
        return found.outcomeAt(k);
    }

    public int states(int kind) throws IllegalArgumentException, UnsupportedOperationException {
        return explored(kind).stateCount;
    }

    public int row(int kind, int k, int i) throws IllegalArgumentException, UnsupportedOperationException, IndexOutOfBoundsException {
        Findings found = explored(kind);
        if (!found.hasEnd(k) || i < 0) {
            throw new IndexOutOfBoundsException("no such outcome or step");
        }
        return found.stepOfRow(k, i);
    }

    public int cuts(int kind) throws IllegalArgumentException, UnsupportedOperationException {
        return explored(kind).cutCount;
    }

    public int cut(int kind, int k) throws IllegalArgumentException, UnsupportedOperationException, IndexOutOfBoundsException {
        Findings found = explored(kind);
        if (k < 0 || k >= found.cutCount) {
            throw new IndexOutOfBoundsException("no such cut");
        }
        return found.cutAt(k);
    }

    public boolean allows(int kind, long outcome) throws IllegalArgumentException, UnsupportedOperationException {
        return explored(kind).hasOutcome(outcome);
    }

    public long differs(int kind, int other) throws IllegalArgumentException, UnsupportedOperationException {
        // Both kinds are looked at first: a missing one counts before one without room.
        if (!isKind(kind) || !isKind(other)) {
            throw new IllegalArgumentException("no such kind");
        }
        return Findings.leastOfOne(explored(kind), explored(other));
    }

    public int soonest(int kind, int p, int v) throws IllegalArgumentException, UnsupportedOperationException {
        if (!isDigit(p) || !isDigit(v)) {
            throw new IllegalArgumentException("no such place or number");
        }
        return explored(kind).fewestSteps(p, v);
    }

    public int stuck(int kind) throws IllegalArgumentException, UnsupportedOperationException {
        return explored(kind).stuckCount;
    }

    public int count(int what) {
        switch (what) {
            case 0:
                return program.actionCount();
            case 1:
                return program.threadCount();
            case 2:
                return program.countOf(WRITE);
            case 3:
                return program.countOf(READ);
            case 4:
                return program.countOf(FENCE);
            case 5:
                return program.countOf(WRITE_THROUGH);
            default:
                return NONE;
        }
    }

    private void forgetFindings() {
        for (int kind = 0; kind < KINDS; kind++) {
            findings[kind].fresh = false;
        }
    }

    /** What is found of a kind; explored once for a program, as many calls ask for the same. */
    private Findings explored(int kind) {
        if (!isKind(kind)) {
            throw new IllegalArgumentException("no such kind");
        }
        Findings found = findings[kind];
        if (!found.fresh) {
            explorer.explore(kind, found);
        }
        if (found.crowded) {
            throw new UnsupportedOperationException("no room for the states");
        }
        return found;
    }

    private static boolean isKind(int kind) {
        return kind >= 0 && kind < KINDS;
    }

    private static boolean isDigit(int n) {
        return n >= 0 && n < BASE;
    }

    /** The threads' actions, each as one number: what, place, and number or register. */
    private static final class Program {
        private final int[] codes = new int[THREADS * MOST_ACTIONS];
        private final int[] lengths = new int[THREADS];

        static boolean canBe(int thread, int what, int place, int n) {
            if (thread < 0 || thread >= THREADS || what < WRITE || what > WRITE_THROUGH) {
                return false;
            }
            if (what == FENCE) {
                return place == 0 && n == 0;
            }
            return isDigit(place) && isDigit(n);
        }

        int lengthOf(int thread) {
            return lengths[thread];
        }

        int codeOf(int thread, int index) {
            return codes[thread * MOST_ACTIONS + index];
        }

        /** Only for an action that can be, of a thread that has fewer than five. */
        void append(int thread, int what, int place, int n) {
            codes[thread * MOST_ACTIONS + lengths[thread]] = (what * BASE + place) * BASE + n;
            lengths[thread]++;
        }

        void dropAll() {
            Arrays.fill(lengths, 0);
        }

        int actionCount() {
            int sum = 0;
            for (int thread = 0; thread < THREADS; thread++) {
                sum += lengths[thread];
            }
            return sum;
        }

        int threadCount() {
            int sum = 0;
            for (int thread = 0; thread < THREADS; thread++) {
                sum += lengths[thread] > 0 ? 1 : 0;
            }
            return sum;
        }

        int countOf(int what) {
            int sum = 0;
            for (int thread = 0; thread < THREADS; thread++) {
                for (int index = 0; index < lengths[thread]; index++) {
                    sum += codeOf(thread, index) / (BASE * BASE) == what ? 1 : 0;
                }
            }
            return sum;
        }
    }

    /**
     * The steps of a machine. A state is two numbers, so that states need no objects of their own.
     * The MEMORY has from its lowest bit on the 40 bits of the outcome, as the document orders its
     * digits (so the lowest 8 are the cut), then 3 bits a thread for how many actions it has done.
     * The BUFFERS have 15 bits each: three entries, the oldest lowest; an entry is 16 + 4 place +
     * number, and 0 where there is none.
     */
    private static final class Machine {
        private static final long OUTCOME_MASK = (1L << 40) - 1;
        private static final int CUT_MASK = CUTS_IN_ALL - 1;
        private static final int DONE_SHIFT = 40;
        private static final int DONE_MASK = 7;
        private static final int DIGIT_MASK = BASE - 1;
        private static final int ENTRIES = 3;
        private static final int ENTRY_BITS = 5;
        private static final int ENTRY_MASK = 31;
        private static final int ENTRY_THERE = 4;
        private static final int FULL_SHIFT = (ENTRIES - 1) * ENTRY_BITS;
        private static final int BUFFER_BITS = ENTRIES * ENTRY_BITS;
        private static final int BUFFER_MASK = (1 << BUFFER_BITS) - 1;
        private static final int FIRST_DRAIN = 4;
        private static final int FIRST_PLACE_DRAIN = 8;
        /** For each kind the first number that is no step of it. */
        private static final int[] STEPS_END = {4, 8, 24, 6};

        private final Program program;
        private int kind;
        private long memory;
        private long buffers;
        private long nextMemory;
        private long nextBuffers;

        Machine(Program program) {
            this.program = program;
        }

        void become(int newKind) {
            kind = newKind;
        }

        void standAt(long newMemory, long newBuffers) {
            memory = newMemory;
            buffers = newBuffers;
        }

        int stepsEnd() {
            return buffers == 0 ? THREADS : STEPS_END[kind];
        }

        long outcomeHere() {
            return memory & OUTCOME_MASK;
        }

        int cutHere() {
            return bitsAt(0, CUT_MASK);
        }

        boolean isAtEnd() {
            for (int thread = 0; thread < THREADS; thread++) {
                if (bitsAt(doneShift(thread), DONE_MASK) < program.lengthOf(thread)) {
                    return false;
                }
            }
            return buffers == 0;
        }

        /** Whether the step can be done here; if so the next state is what it leads to. */
        boolean go(int step) {
            nextMemory = memory;
            nextBuffers = buffers;
            if (step < THREADS) {
                return act(step);
            }
            if (kind != KIND_PLACES) {
                return drain(step - FIRST_DRAIN, NONE);
            }
            int which = step - FIRST_PLACE_DRAIN;
            return which >= 0 && drain(which / BASE, which % BASE);
        }

        private boolean act(int thread) {
            int done = bitsAt(doneShift(thread), DONE_MASK);
            if (done >= program.lengthOf(thread)) {
                return false;
            }
            int code = program.codeOf(thread, done);
            int place = code / BASE % BASE;
            int n = code % BASE;
            int buffer = kind == KIND_PAIRS ? thread / 2 : thread;
            int entries = entriesOf(buffer);
            nextMemory = memory + (1L << doneShift(thread));
            switch (code / (BASE * BASE)) {
                case WRITE:
                    if (kind == KIND_PLAIN) {
                        setDigit(placeShift(place), n);
                    } else {
                        setEntries(buffer, withNewest(entries, (ENTRY_THERE + place) * BASE + n));
                    }
                    return entries >> FULL_SHIFT == 0;
                case READ:
                    int number = newestFor(entries, place);
                    setDigit(registerShift(thread, n), number == NONE ? bitsAt(placeShift(place), DIGIT_MASK) : number);
                    return true;
                case FENCE:
                    return entries == 0;
                default:
                    setDigit(placeShift(place), n);
                    return entries == 0;
            }
        }

        /** Full entries stay as they are. */
        private static int withNewest(int entries, int entry) {
            for (int i = 0; i < ENTRIES; i++) {
                if (entries >> (i * ENTRY_BITS) == 0) {
                    return entries | (entry << (i * ENTRY_BITS));
                }
            }
            return entries;
        }

        private static int newestFor(int entries, int place) {
            for (int i = ENTRIES - 1; i >= 0; i--) {
                int entry = (entries >> (i * ENTRY_BITS)) & ENTRY_MASK;
                if (entry / BASE == ENTRY_THERE + place) {
                    return entry % BASE;
                }
            }
            return NONE;
        }

        /** The oldest entry for the place goes to it; place NONE takes the oldest of all. */
        private boolean drain(int buffer, int place) {
            int entries = entriesOf(buffer);
            for (int i = 0; i < ENTRIES; i++) {
                int younger = entries >> (i * ENTRY_BITS);
                if (younger == 0) {
                    return false;
                }
                int entry = younger & ENTRY_MASK;
                int entryPlace = entry / BASE - ENTRY_THERE;
                if (place == NONE || entryPlace == place) {
                    int older = entries & ((1 << (i * ENTRY_BITS)) - 1);
                    setEntries(buffer, older | ((younger >> ENTRY_BITS) << (i * ENTRY_BITS)));
                    setDigit(placeShift(entryPlace), entry % BASE);
                    return true;
                }
            }
            return false;
        }

        private int bitsAt(int shift, int mask) {
            return (int) (memory >>> shift) & mask;
        }

        private int entriesOf(int buffer) {
            return (int) (buffers >>> (buffer * BUFFER_BITS)) & BUFFER_MASK;
        }

        private void setEntries(int buffer, int entries) {
            int shift = buffer * BUFFER_BITS;
            nextBuffers = (buffers & ~((long) BUFFER_MASK << shift)) | ((long) entries << shift);
        }

        private void setDigit(int shift, int digit) {
            nextMemory = (nextMemory & ~((long) DIGIT_MASK << shift)) | ((long) digit << shift);
        }

        private static int doneShift(int thread) {
            return DONE_SHIFT + 3 * thread;
        }

        private static int registerShift(int thread, int register) {
            return 2 * (19 - BASE * thread - register);
        }

        static int placeShift(int place) {
            return 2 * (3 - place);
        }
    }

    /** The states found so far in the order of finding; its rows grow with need and are used again. */
    private static final class Room {
        private static final int FIRST_SLOTS = 512;
        private static final int WIDER = 8;

        private long[] memories = new long[FIRST_SLOTS / 2];
        private long[] buffers = new long[FIRST_SLOTS / 2];
        /** Of each slot the state's index and one more; 0 where it is free. */
        private int[] slots = new int[FIRST_SLOTS];
        /** How many slots are in use less one; a small program leaves a wide row's rest alone. */
        private int mask = FIRST_SLOTS - 1;
        private int size = 0;
        private boolean crowded = false;

        void empty() {
            mask = FIRST_SLOTS - 1;
            Arrays.fill(slots, 0, FIRST_SLOTS, 0);
            size = 0;
            crowded = false;
        }

        /** Whether the state is a new one that has been taken in. */
        boolean add(long memory, long buffer) {
            int slot = slotOf(memory, buffer);
            if (slot == NONE || slots[slot] != 0) {
                return false;
            }
            // The rows are widened in time and up to MOST_STATES, so this is the room's end.
            if (size >= memories.length) {
                crowded = true;
                return false;
            }
            memories[size] = memory;
            buffers[size] = buffer;
            size++;
            slots[slot] = size;
            if (size * 2 > mask) {
                widen();
            }
            return true;
        }

        /** The slot that holds the state, or the free one where it belongs. */
        private int slotOf(long memory, long buffer) {
            long mixed = memory * 0x9E3779B97F4A7C15L + buffer * 0xC2B2AE3D27D4EB4FL;
            mixed = (mixed ^ (mixed >>> 32)) * 0x9E3779B97F4A7C15L;
            int slot = (int) (mixed >>> 32) & mask;
            for (int tries = 0; tries <= mask; tries++) {
                int index = slots[slot] - 1;
                if (index < 0 || (memories[index] == memory && buffers[index] == buffer)) {
                    return slot;
                }
                slot = (slot + 1) & mask;
            }
            return NONE;
        }

        private void widen() {
            int span = (mask + 1) * WIDER;
            if (slots.length < span) {
                slots = new int[span];
            } else {
                Arrays.fill(slots, 0, span, 0);
            }
            mask = span - 1;
            int length = Math.min(MOST_STATES, span / 2);
            if (memories.length < length) {
                memories = Arrays.copyOf(memories, length);
                buffers = Arrays.copyOf(buffers, length);
            }
            for (int index = 0; index < size; index++) {
                int slot = slotOf(memories[index], buffers[index]);
                if (slot != NONE) {
                    slots[slot] = index + 1;
                }
            }
        }
    }

    /** Goes all ways, the states in the order of their rows of steps: by length, then as words. */
    private static final class Explorer {
        private final Machine machine;
        private final Room room = new Room();

        Explorer(Program program) {
            machine = new Machine(program);
        }

        void explore(int kind, Findings found) {
            machine.become(kind);
            room.empty();
            found.begin();
            if (room.add(0, 0)) {
                found.addState(0, 0);
            }
            int depth = 0;
            int depthEnd = 1;
            for (int index = 0; index < MOST_STATES; index++) {
                if (index >= room.size || room.crowded) {
                    break;
                }
                if (index == depthEnd) {
                    depth++;
                    depthEnd = room.size;
                }
                machine.standAt(room.memories[index], room.buffers[index]);
                found.addCut(machine.cutHere(), depth);
                lookAround(index, found);
            }
            found.crowded = room.crowded;
            found.sortEnds();
        }

        private void lookAround(int index, Findings found) {
            int ways = 0;
            int stepsEnd = machine.stepsEnd();
            for (int step = 0; step < stepsEnd; step++) {
                if (machine.go(step)) {
                    ways++;
                    if (room.add(machine.nextMemory, machine.nextBuffers)) {
                        found.addState(index, step);
                    }
                }
            }
            if (machine.isAtEnd()) {
                found.addEnd(machine.outcomeHere(), index);
            } else if (ways == 0) {
                found.stuckCount++;
            }
        }
    }

    /** What is kept of a kind when it has been explored. */
    private static final class Findings {
        private static final int STEP_BITS = 5;
        private static final int STEP_MASK = 31;
        private static final int INDEX_BITS = 14;
        private static final int INDEX_MASK = (1 << INDEX_BITS) - 1;
        private static final int WIDER = 8;

        private boolean fresh = false;
        private boolean crowded = false;
        private int stateCount = 0;
        private int stuckCount = 0;
        private int cutCount = 0;
        private int endCount = 0;
        /** Of each state the index of the one before it and the step from there. */
        private int[] trail = new int[256];
        /** Of each end the outcome and, in the lowest bits, the state's index. */
        private long[] ends = new long[16];
        /** Of each cut the fewest steps to it, or NONE. */
        private final int[] cutSteps = new int[CUTS_IN_ALL];

        void begin() {
            fresh = true;
            crowded = false;
            stateCount = 0;
            stuckCount = 0;
            cutCount = 0;
            endCount = 0;
            Arrays.fill(cutSteps, NONE);
        }

        void addState(int from, int step) {
            if (stateCount >= trail.length) {
                trail = Arrays.copyOf(trail, Math.min(MOST_STATES, trail.length * WIDER));
            }
            if (stateCount < trail.length) {
                trail[stateCount] = (from << STEP_BITS) | step;
                stateCount++;
            }
        }

        void addEnd(long outcome, int index) {
            if (endCount >= ends.length) {
                ends = Arrays.copyOf(ends, Math.min(MOST_STATES, ends.length * WIDER));
            }
            if (endCount < ends.length) {
                ends[endCount] = (outcome << INDEX_BITS) | index;
                endCount++;
            }
        }

        /** States come by their depth, so the first one with a cut has the fewest steps. */
        void addCut(int cut, int depth) {
            if (cutSteps[cut] == NONE) {
                cutSteps[cut] = depth;
                cutCount++;
            }
        }

        /** Shell's way: short, and quick enough for some thousands of ends. */
        void sortEnds() {
            for (int gap = endCount / 2; gap > 0; gap /= 2) {
                for (int i = gap; i < endCount; i++) {
                    long end = ends[i];
                    int to = i;
                    while (to >= gap && ends[to - gap] > end) {
                        ends[to] = ends[to - gap];
                        to -= gap;
                    }
                    ends[to] = end;
                }
            }
        }

        boolean hasEnd(int k) {
            return k >= 0 && k < endCount;
        }

        long outcomeAt(int k) {
            return ends[k] >> INDEX_BITS;
        }

        boolean hasOutcome(long outcome) {
            int low = 0;
            int high = endCount;
            while (low < high) {
                int middle = (low + high) / 2;
                if (outcomeAt(middle) < outcome) {
                    low = middle + 1;
                } else {
                    high = middle;
                }
            }
            return low < endCount && outcomeAt(low) == outcome;
        }

        int stepOfRow(int k, int i) {
            int end = (int) ends[k] & INDEX_MASK;
            int length = 0;
            for (int state = end; state > 0 && length < MOST_STEPS; state = before(state)) {
                length++;
            }
            if (i >= length) {
                return NONE;
            }
            int state = end;
            for (int back = length - 1; back > i; back--) {
                state = before(state);
            }
            return trail[state] & STEP_MASK;
        }

        private int before(int state) {
            return trail[state] >> STEP_BITS;
        }

        int cutAt(int k) {
            int left = k;
            for (int cut = 0; cut < CUTS_IN_ALL; cut++) {
                if (cutSteps[cut] != NONE) {
                    if (left == 0) {
                        return cut;
                    }
                    left--;
                }
            }
            return NONE;
        }

        int fewestSteps(int place, int number) {
            int fewest = NONE;
            for (int cut = 0; cut < CUTS_IN_ALL; cut++) {
                int steps = cutSteps[cut];
                if (steps != NONE && ((cut >> Machine.placeShift(place)) & Machine.DIGIT_MASK) == number) {
                    fewest = fewest == NONE ? steps : Math.min(fewest, steps);
                }
            }
            return fewest;
        }

        /** The least outcome that just one of the two has, or NONE. */
        static long leastOfOne(Findings a, Findings b) {
            for (int k = 0; k < MOST_STATES; k++) {
                if (k >= a.endCount && k >= b.endCount) {
                    return NONE;
                }
                if (k >= a.endCount) {
                    return b.outcomeAt(k);
                }
                if (k >= b.endCount || a.outcomeAt(k) < b.outcomeAt(k)) {
                    return a.outcomeAt(k);
                }
                if (a.outcomeAt(k) > b.outcomeAt(k)) {
                    return b.outcomeAt(k);
                }
            }
            return NONE;
        }
    }
}
