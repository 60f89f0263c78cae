/** Runs of 512 calls on one object: whatever was called before, each answer is the model's. */
public final class LongRunsTest {
    private static final int CALLS = 512;
    private static final int RUNS = 60;
    /** How many actions a program of a run has at most; the small ones are cleared more often. */
    private static final int[] MOST_ACTIONS = {2, 3, 4, 6, 8, 10};
    /** Few, as the naive machine is slow where there is no room. */
    private static final int VAST_RUNS = 2;
    private static final int[] NO_DIGITS = {-1, 4, 5, 7, 8, 16, 256, -4, Integer.MIN_VALUE, Integer.MAX_VALUE};
    private static final int[] NO_INDEXES = {-1, -2, 12000, 65536, Integer.MIN_VALUE, Integer.MAX_VALUE};

    private static final Due due = new Due("LongRunsTest");
    private static long seed = 20261116;

    private OrderMachines x = new OrderMachines();
    private Model model = new Model();
    private String told;
    private String program = "";

    public static void main(String[] args) {
        for (int run = 0; run < RUNS; run++) {
            new LongRunsTest().run(run, MOST_ACTIONS[run % MOST_ACTIONS.length]);
        }
        for (int run = 0; run < VAST_RUNS; run++) {
            new LongRunsTest().run(RUNS + run, 20);
        }
        twoObjectsInTurn();
        fullAndOverInTurn();
        throwsLeaveAllAsItWas();
        due.end();
    }

    /** A fixed row of numbers, so that a failure comes again. */
    private static int pick(int below) {
        seed = seed * 6364136223846793005L + 1442695040888963407L;
        return (int) ((seed >>> 33) % below);
    }

    private static int pickOf(int[] all) {
        return all[pick(all.length)];
    }

    private static int digit() {
        return pick(16) == 0 ? pickOf(NO_DIGITS) : pick(4);
    }

    private void run(int run, int mostActions) {
        for (int call = 0; call < CALLS; call++) {
            told = "run " + run + ", call " + call + ", program" + program + ": ";
            callOne(mostActions);
        }
    }

    private void callOne(int mostActions) {
        int actions = model.count(0);
        if (pick(8) == 0) {
            wrongAction();
        } else if (actions < mostActions && pick(3) == 0) {
            action();
        } else if (actions >= mostActions && pick(24) == 0) {
            clear();
        } else {
            ask();
        }
    }

    private void clear() {
        x.clear();
        model.clear();
        program = "";
    }

    private void action() {
        int thread = pick(4);
        int what = "0000011112233".charAt(pick(13)) - '0';
        int place = what == 2 ? 0 : pick(3);
        int n = what == 2 ? 0 : pick(4);
        tryAction(thread, what, place, n);
    }

    /** Wrong in one argument or in several, or only too many. */
    private void wrongAction() {
        int thread = model.count(0) >= 5 && pick(2) == 0 ? pick(4) : pickOf(NO_DIGITS);
        tryAction(thread, digit(), pick(2) == 0 ? pickOf(NO_DIGITS) : pick(4), digit());
    }

    private void tryAction(int thread, int what, int place, int n) {
        int before = model.count(0);
        due.same(told + "action " + thread + " " + what + " " + place + " " + n,
                () -> model.action(thread, what, place, n), () -> x.action(thread, what, place, n));
        if (model.count(0) > before) {
            program += " " + thread + what + place + n;
        }
    }

    /** Some index that is there, or the first one that is not, or a wrong one. */
    private static int index(int size) {
        int kind = pick(8);
        return kind == 0 ? size : kind == 1 ? pickOf(NO_INDEXES) : pick(Math.max(size, 1));
    }

    private int sizeOf(int kind, boolean ofCuts) {
        try {
            return ofCuts ? model.cuts(kind) : model.outcomes(kind);
        } catch (IllegalArgumentException | UnsupportedOperationException e) {
            return 1;
        }
    }

    private long someOutcome(int kind) {
        try {
            return model.outcome(pick(8) == 0 ? pick(4) : kind, pick(sizeOf(kind, false))) + (pick(4) == 0 ? pick(3) - 1 : 0);
        } catch (IllegalArgumentException | UnsupportedOperationException | IndexOutOfBoundsException e) {
            return pick(2) == 0 ? Long.MIN_VALUE : Long.MAX_VALUE;
        }
    }

    private void ask() {
        int kind = digit();
        switch (pick(11)) {
            case 0:
                due.same(told + "outcomes " + kind, () -> model.outcomes(kind), () -> x.outcomes(kind));
                break;
            case 1:
                int k = index(sizeOf(kind, false));
                due.same(told + "outcome " + kind + " " + k, () -> model.outcome(kind, k), () -> x.outcome(kind, k));
                break;
            case 2:
                due.same(told + "states " + kind, () -> model.states(kind), () -> x.states(kind));
                break;
            case 3:
                askRow(kind, index(sizeOf(kind, false)), index(20));
                break;
            case 4:
                due.same(told + "cuts " + kind, () -> model.cuts(kind), () -> x.cuts(kind));
                break;
            case 5:
                int c = index(sizeOf(kind, true));
                due.same(told + "cut " + kind + " " + c, () -> model.cut(kind, c), () -> x.cut(kind, c));
                break;
            case 6:
                long outcome = someOutcome(kind);
                due.same(told + "allows " + kind + " " + outcome, () -> model.allows(kind, outcome) ? 1 : 0,
                        () -> x.allows(kind, outcome) ? 1 : 0);
                break;
            case 7:
                int other = digit();
                due.same(told + "differs " + kind + " " + other, () -> model.differs(kind, other), () -> x.differs(kind, other));
                break;
            case 8:
                askSoonest(kind, digit(), digit());
                break;
            case 9:
                due.same(told + "stuck " + kind, () -> model.stuck(kind), () -> x.stuck(kind));
                break;
            default:
                int what = pick(8) - 1;
                due.same(told + "count " + what, () -> model.count(what), () -> x.count(what));
        }
    }

    private void askRow(int kind, int k, int i) {
        due.same(told + "row " + kind + " " + k + " " + i, () -> model.row(kind, k, i), () -> x.row(kind, k, i));
    }

    private void askSoonest(int kind, int p, int v) {
        due.same(told + "soonest " + kind + " " + p + " " + v, () -> model.soonest(kind, p, v), () -> x.soonest(kind, p, v));
    }

    /** Each object has a program of its own, also when the calls go to and fro. */
    private static void twoObjectsInTurn() {
        LongRunsTest one = new LongRunsTest();
        LongRunsTest two = new LongRunsTest();
        for (int call = 0; call < CALLS; call++) {
            one.told = "one of two, call " + call + ", program" + one.program + ": ";
            one.callOne(6);
            two.told = "the other of two, call " + call + ", program" + two.program + ": ";
            two.callOne(8);
        }
    }

    /** The fullest programs and those without room by turns, as long as an object's calls last. */
    private static void fullAndOverInTurn() {
        OrderMachines x = new OrderMachines();
        int calls = 0;
        for (int turn = 0; calls < CALLS - 20; turn++) {
            int kind = turn / 2 % 4;
            String program = turn % 2 == 0 ? Programs.FULL[kind] : Programs.OVER[kind];
            Programs.add(x, program);
            if (turn % 2 == 0) {
                due.answer("full, turn " + turn, 12000, () -> x.states(kind));
            } else {
                due.thrown("over, turn " + turn, UnsupportedOperationException.class, () -> x.states(kind));
            }
            due.answer("its actions, turn " + turn, program.split(" ").length, () -> x.count(0));
            x.clear();
            due.answer("cleared, turn " + turn, 1, () -> x.states(kind));
            calls += program.split(" ").length + 4;
        }
        due.that("at most 512 calls: " + calls, calls <= CALLS);
    }

    /** Nearly all calls throw; the few that do not answer as if the others had never been. */
    private static void throwsLeaveAllAsItWas() {
        OrderMachines x = Programs.made("0001 0110 1011 1100");
        for (int turn = 0; turn < 56; turn++) {
            String told = "turn " + turn + ": ";
            int wrong = NO_DIGITS[turn % NO_DIGITS.length];
            int out = NO_INDEXES[turn % NO_INDEXES.length];
            due.thrown(told + "action", IllegalArgumentException.class, () -> x.action(wrong, 0, 0, 1));
            due.thrown(told + "action's n", IllegalArgumentException.class, () -> x.action(0, 0, 0, wrong));
            due.thrown(told + "states", IllegalArgumentException.class, () -> x.states(wrong));
            due.thrown(told + "outcome", IndexOutOfBoundsException.class, () -> x.outcome(1, out));
            due.thrown(told + "row", IndexOutOfBoundsException.class, () -> x.row(1, out, 0));
            due.thrown(told + "cut", IndexOutOfBoundsException.class, () -> x.cut(1, out));
            due.thrown(told + "soonest", IllegalArgumentException.class, () -> x.soonest(1, wrong, 0));
            due.answer(told + "ROWS", 34, () -> x.states(1));
            due.answer(told + "actions", 4, () -> x.count(0));
        }
    }
}
