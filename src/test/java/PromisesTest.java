/** Each promise of the document by its number: ordinary inputs, edges, wrong inputs. */
public final class PromisesTest {
    private static final Class<IllegalArgumentException> ILLEGAL = IllegalArgumentException.class;
    private static final Class<UnsupportedOperationException> UNSUPPORTED = UnsupportedOperationException.class;
    private static final Class<IndexOutOfBoundsException> OUT = IndexOutOfBoundsException.class;
    private static final int[] WRONG_KINDS = {-1, 4, Integer.MIN_VALUE, Integer.MAX_VALUE};
    private static final int[] WRONG_DIGITS = {-1, 4, Integer.MIN_VALUE, Integer.MAX_VALUE};

    /** Each thread writes what the other one reads. */
    private static final String STORES = "0001 0110 1011 1100";
    /** Thread 0 writes place 0, then 1; thread 1 reads place 1, then 0. */
    private static final String MESSAGE = "0001 0011 1110 1101";
    /** No kind has room for it. */
    private static final String VAST = "0001 0110 0121 0002 0133 1011 1100 1121 1012 1133 2021 2100 2111 2022 2133 3031 3100 3111 3032 3123";

    private static Due due = new Due("PromisesTest");

    public static void main(String[] args) {
        promise1NewObject();
        promise2Action();
        promise2Wrong();
        promise3Clear();
        promise4Outcomes();
        promise5Outcome();
        promise5Digits();
        promise6States();
        promise7Row();
        promise8And9Cuts();
        promise10Allows();
        promise11Differs();
        promise12Soonest();
        promise13Stuck();
        promise14Count();
        kindsThatAreNone();
        noRoom();
        changesAreSeen();
        reads();
        fencesAndWritesThrough();
        due.answer("NONE", -1, () -> OrderMachines.NONE);
        due.end();
    }

    private static void isNew(String told, OrderMachines x) {
        for (int what = 0; what < 6; what++) {
            int w = what;
            due.answer(told + "count " + what, 0, () -> x.count(w));
        }
        for (int kind = 0; kind < 4; kind++) {
            int k = kind;
            due.answer(told + "states " + kind, 1, () -> x.states(k));
            due.answer(told + "outcomes " + kind, 1, () -> x.outcomes(k));
            due.answer(told + "outcome " + kind, 0, () -> x.outcome(k, 0));
            due.answer(told + "row " + kind, -1, () -> x.row(k, 0, 0));
            due.answer(told + "cuts " + kind, 1, () -> x.cuts(k));
            due.answer(told + "cut " + kind, 0, () -> x.cut(k, 0));
            due.answer(told + "allows 0, " + kind, 1, () -> x.allows(k, 0) ? 1 : 0);
            due.answer(told + "stuck " + kind, 0, () -> x.stuck(k));
            due.answer(told + "soonest of 0, " + kind, 0, () -> x.soonest(k, 3, 0));
            due.answer(told + "soonest of 1, " + kind, -1, () -> x.soonest(k, 3, 1));
            due.answer(told + "differs " + kind, -1, () -> x.differs(k, 3 - k));
        }
    }

    private static void promise1NewObject() {
        isNew("new: ", new OrderMachines());
        OrderMachines busy = Programs.made(STORES);
        busy.states(1);
        isNew("new beside another: ", new OrderMachines());
        due.answer("the other one is left alone", 4, () -> busy.count(0));
    }

    private static void promise2Action() {
        OrderMachines x = new OrderMachines();
        for (int thread = 0; thread < 4; thread++) {
            int t = thread;
            due.answer("first of " + t, 1, () -> x.action(t, 0, 3, 3));
            due.answer("second of " + t, 2, () -> x.action(t, 1, 0, 3));
            due.answer("third of " + t, 3, () -> x.action(t, 2, 0, 0));
            due.answer("fourth of " + t, 4, () -> x.action(t, 3, 3, 0));
            due.answer("fifth of " + t, 5, () -> x.action(t, 0, 0, 0));
            due.thrown("sixth of " + t, UNSUPPORTED, () -> x.action(t, 0, 0, 0));
            due.thrown("sixth fence of " + t, UNSUPPORTED, () -> x.action(t, 2, 0, 0));
            due.thrown("wrong sixth of " + t, ILLEGAL, () -> x.action(t, 0, 0, 4));
            due.thrown("wrong sixth fence of " + t, ILLEGAL, () -> x.action(t, 2, 0, 1));
            due.answer("all after " + t, 5 * (t + 1), () -> x.count(0));
        }
    }

    private static void promise2Wrong() {
        OrderMachines x = new OrderMachines();
        for (int wrong : WRONG_DIGITS) {
            due.thrown("thread " + wrong, ILLEGAL, () -> x.action(wrong, 0, 0, 0));
            due.thrown("what " + wrong, ILLEGAL, () -> x.action(0, wrong, 0, 0));
            for (int what = 0; what < 4; what++) {
                int w = what;
                due.thrown(what + " with place " + wrong, ILLEGAL, () -> x.action(0, w, wrong, 0));
                due.thrown(what + " with n " + wrong, ILLEGAL, () -> x.action(0, w, 0, wrong));
            }
        }
        for (int one = 1; one < 4; one++) {
            int n = one;
            due.thrown("fence with place " + n, ILLEGAL, () -> x.action(0, 2, n, 0));
            due.thrown("fence with n " + n, ILLEGAL, () -> x.action(0, 2, 0, n));
        }
        due.answer("wrong actions leave nothing", 0, () -> x.count(0));
        due.answer("nor states", 1, () -> x.states(0));
        due.answer("nor actions of the thread", 1, () -> x.action(0, 2, 0, 0));
    }

    private static void promise3Clear() {
        OrderMachines x = Programs.made(VAST);
        due.thrown("no room before", UNSUPPORTED, () -> x.states(0));
        x.clear();
        isNew("cleared: ", x);
        x.clear();
        isNew("cleared twice: ", x);
        for (int i = 1; i <= 5; i++) {
            int n = i;
            due.answer("action " + n + " after clear", n, () -> x.action(2, 1, 1, 1));
        }
        due.answer("reads after clear", 5, () -> x.count(3));
        due.answer("writes after clear", 0, () -> x.count(2));
        due.answer("states after clear", 6, () -> x.states(1));
    }

    private static void promise4Outcomes() {
        int[] stores = {3, 4, 4, 3};
        int[] message = {3, 3, 4, 3};
        OrderMachines x = Programs.made(STORES);
        OrderMachines y = Programs.made(MESSAGE);
        for (int kind = 0; kind < 4; kind++) {
            int k = kind;
            due.answer("outcomes of stores " + k, stores[k], () -> x.outcomes(k));
            due.answer("outcomes of message " + k, message[k], () -> y.outcomes(k));
        }
        // The same end by other ways counts once; the threads 0 and 2 have no buffer in common.
        OrderMachines same = Programs.made("0001 1001");
        due.answer("same writes", 1, () -> same.outcomes(1));
        OrderMachines far = Programs.made("0001 0110 2011 2100");
        due.answer("stores in two pairs", 4, () -> far.outcomes(3));
        OrderMachines near = Programs.made("2001 2110 3011 3100");
        due.answer("stores in the second pair", 3, () -> near.outcomes(3));
    }

    private static void promise5Outcome() {
        OrderMachines x = Programs.made(STORES);
        long places = Programs.outcome(Programs.place(0), 1, Programs.place(1), 1);
        long first = Programs.outcome(Programs.register(0, 0), 1);
        long second = Programs.outcome(Programs.register(1, 0), 1);
        long[] rows = {places, places + second, places + first, places + first + second};
        for (int k = 0; k < 4; k++) {
            int at = k;
            due.answer("outcome of ROWS " + k, rows[k], () -> x.outcome(1, at));
            due.answer("outcome of PLACES " + k, rows[k], () -> x.outcome(2, at));
        }
        for (int k = 0; k < 3; k++) {
            int at = k;
            due.answer("outcome of PLAIN " + k, rows[k + 1], () -> x.outcome(0, at));
            due.answer("outcome of PAIRS " + k, rows[k + 1], () -> x.outcome(3, at));
        }
        for (int kind = 0; kind < 4; kind++) {
            int at = kind;
            for (int wrong : new int[] {-1, Integer.MIN_VALUE, Integer.MAX_VALUE, x.outcomes(kind), 16, 17, 256}) {
                due.thrown("outcome " + kind + ", " + wrong, OUT, () -> x.outcome(at, wrong));
            }
        }
    }

    private static void promise5Digits() {
        for (int thread = 0; thread < 4; thread++) {
            for (int register = 0; register < 4; register++) {
                int place = (thread + register) % 4;
                int number = 1 + (thread + 2 * register) % 3;
                OrderMachines x = new OrderMachines();
                x.action(thread, 0, place, number);
                x.action(thread, 1, place, register);
                long want = Programs.outcome(Programs.register(thread, register), number, Programs.place(place), number);
                for (int kind = 0; kind < 4; kind++) {
                    int k = kind;
                    due.answer("digits " + thread + register + kind, want, () -> x.outcome(k, 0));
                }
            }
        }
        OrderMachines all = new OrderMachines();
        for (int thread = 0; thread < 4; thread++) {
            all.action(thread, 3, thread, 3);
            for (int register = 0; register < 4; register++) {
                all.action(thread, 1, thread, register);
            }
        }
        due.answer("all digits are 3", (1L << 40) - 1, () -> all.outcome(0, 0));
        due.answer("and only that", 1, () -> all.outcomes(3));
    }

    private static void promise6States() {
        states("0001", 2, 3, 3, 3);
        states("3001", 2, 3, 3, 3);
        states("0200", 2, 2, 2, 2);
        states("0301", 2, 2, 2, 2);
        states("0001 0200", 3, 4, 4, 4);
        states("0001 0110", 3, 5, 5, 5);
        states(STORES, 13, 34, 34, 41);
        states(MESSAGE, 13, 23, 29, 29);
        // A buffer has three entries: the fourth write waits, in PLACES for any place to go.
        states("0001 0002 0003 0001", 5, 14, 14, 14);
        states("0001 0002 0003 0001 0002", 6, 18, 18, 18);
        states("0001 0011 0021 0031", 5, 14, 29, 14);
        // The pair's entries have no thread: equal ones in another order are one state.
        states("0001 1001", 4, 9, 9, 8);
        states("2001 3001", 4, 9, 9, 8);
        states("0001 1011", 4, 9, 9, 10);
        states("0001 2011", 4, 9, 9, 9);
        // And the pair's three entries are for both.
        states("0001 0001 1001 1001", 9, 36, 36, 26);
        // A write of the number that is there is a step all the same.
        states("0000", 2, 3, 3, 3);
    }

    private static void states(String program, int plain, int rows, int places, int pairs) {
        OrderMachines x = Programs.made(program);
        due.answer("states of PLAIN " + program, plain, () -> x.states(0));
        due.answer("states of ROWS " + program, rows, () -> x.states(1));
        due.answer("states of PLACES " + program, places, () -> x.states(2));
        due.answer("states of PAIRS " + program, pairs, () -> x.states(3));
    }

    private static void promise7Row() {
        row(STORES, 0, 0, 0, 0, 1, 1);
        row(STORES, 0, 1, 1, 1, 0, 0);
        row(STORES, 0, 2, 0, 1, 0, 1);
        row(STORES, 1, 0, 0, 0, 1, 1, 4, 5);
        row(STORES, 2, 0, 0, 0, 1, 1, 8, 13);
        row(STORES, 3, 2, 0, 1, 0, 1, 4, 4);
        row(MESSAGE, 2, 2, 0, 0, 9, 1, 1, 8);
        row("2001 3011", 3, 0, 2, 3, 5, 5);
        row("0001 2011", 3, 0, 0, 2, 4, 5);
        row("3031", 2, 0, 3, 23);
        row("3031", 1, 0, 3, 7);
        // The full buffer drains before the fourth write; the lowest step comes first.
        row("0001 0002 0003 0001", 1, 0, 0, 0, 0, 4, 0, 4, 4, 4);
        row("0001 0011 0021 0031", 2, 0, 0, 0, 0, 8, 0, 9, 10, 11);
        // Two entries of one place keep their order in PLACES.
        row("0011 0012", 2, 0, 0, 0, 9, 9);
        OrderMachines x = Programs.made(STORES);
        due.answer("far behind the last", -1, () -> x.row(1, 0, 7));
        due.answer("farthest behind the last", -1, () -> x.row(1, 0, Integer.MAX_VALUE));
        due.thrown("i below 0", OUT, () -> x.row(1, 0, -1));
        due.thrown("i far below 0", OUT, () -> x.row(1, 0, Integer.MIN_VALUE));
        due.thrown("k below 0", OUT, () -> x.row(1, -1, 0));
        due.thrown("k too great", OUT, () -> x.row(1, 4, 0));
        due.thrown("k too great, i behind the last", OUT, () -> x.row(1, 4, 9));
        due.thrown("k and i wrong", OUT, () -> x.row(1, Integer.MAX_VALUE, -1));
    }

    private static void row(String program, int kind, int k, int... steps) {
        OrderMachines x = Programs.made(program);
        for (int i = 0; i <= steps.length; i++) {
            int at = i;
            due.answer("row of " + program + ": " + kind + ", " + k + ", " + i, i < steps.length ? steps[i] : -1, () -> x.row(kind, k, at));
        }
    }

    private static void promise8And9Cuts() {
        cuts(MESSAGE, 0, 0, 64, 80);
        cuts(MESSAGE, 1, 0, 64, 80);
        cuts(MESSAGE, 2, 0, 16, 64, 80);
        cuts(MESSAGE, 3, 0, 64, 80);
        cuts(STORES, 0, 0, 16, 64, 80);
        // Cuts are of every state, not of ends alone.
        cuts("0003 0002 0001", 1, 0, 64, 128, 192);
        cuts("0311 0312 0310", 2, 0, 16, 32);
        cuts("0303 0313 0323 0333", 0, 0, 192, 240, 252, 255);
        OrderMachines x = Programs.made(MESSAGE);
        for (int wrong : new int[] {-1, 4, 255, 256, Integer.MIN_VALUE, Integer.MAX_VALUE}) {
            due.thrown("cut " + wrong, OUT, () -> x.cut(2, wrong));
        }
        due.thrown("cut 3 of ROWS", OUT, () -> x.cut(1, 3));
    }

    private static void cuts(String program, int kind, int... cuts) {
        OrderMachines x = Programs.made(program);
        due.answer("cuts of " + program + ": " + kind, cuts.length, () -> x.cuts(kind));
        for (int k = 0; k < cuts.length; k++) {
            int at = k;
            due.answer("cut of " + program + ": " + kind + ", " + k, cuts[k], () -> x.cut(kind, at));
        }
    }

    private static void promise10Allows() {
        OrderMachines x = Programs.made(STORES);
        due.answer("allows both 0 in ROWS", 1, () -> x.allows(1, 80) ? 1 : 0);
        due.answer("allows both 0 in PLAIN", 0, () -> x.allows(0, 80) ? 1 : 0);
        due.answer("allows the greatest", 1, () -> x.allows(0, 275951648848L) ? 1 : 0);
        for (long wrong : new long[] {0, 79, 81, -1, 275951648847L, 275951648849L, (1L << 40) + 80, (1L << 50) + 80,
                (1L << 54) + 80, (1L << 62) + 80, Long.MIN_VALUE + 80, Long.MIN_VALUE, Long.MAX_VALUE}) {
            for (int kind = 0; kind < 4; kind++) {
                int k = kind;
                due.answer("allows " + wrong + " in " + kind, 0, () -> x.allows(k, wrong) ? 1 : 0);
            }
        }
    }

    private static void promise11Differs() {
        OrderMachines x = Programs.made(STORES);
        int[][] wants = {{-1, 80, 80, -1}, {80, -1, -1, 80}, {80, -1, -1, 80}, {-1, 80, 80, -1}};
        for (int kind = 0; kind < 4; kind++) {
            for (int other = 0; other < 4; other++) {
                int a = kind;
                int b = other;
                due.answer("differs of stores " + a + ", " + b, wants[a][b], () -> x.differs(a, b));
            }
        }
        OrderMachines y = Programs.made(MESSAGE);
        due.answer("differs of message 1, 2", 1073741904L, () -> y.differs(1, 2));
        due.answer("differs of message 2, 1", 1073741904L, () -> y.differs(2, 1));
        due.answer("differs of message 0, 1", -1, () -> y.differs(0, 1));
        // What the one has not is the greatest of the other: register 0 of thread 1 is 1, yet its write comes last.
        OrderMachines last = Programs.made("0301 0000 0010 1011 1100");
        long greatest = Programs.outcome(Programs.register(1, 0), 1, Programs.place(1), 1);
        due.answer("differs by the greatest 0, 1", greatest, () -> last.differs(0, 1));
        due.answer("differs by the greatest 1, 0", greatest, () -> last.differs(1, 0));
        OrderMachines z = Programs.made("0002 0011 1012 1001 2111 2100");
        long least = leastDifference(z, 0, 1);
        due.answer("differs by looking", least, () -> z.differs(0, 1));
        due.answer("differs by looking, turned", least, () -> z.differs(1, 0));
        for (int wrong : WRONG_KINDS) {
            due.thrown("differs 0, " + wrong, ILLEGAL, () -> x.differs(0, wrong));
            due.thrown("differs " + wrong + ", 0", ILLEGAL, () -> x.differs(wrong, 0));
            due.thrown("differs twice " + wrong, ILLEGAL, () -> x.differs(wrong, wrong));
        }
    }

    private static long leastDifference(OrderMachines x, int a, int b) {
        long least = -1;
        for (int turn = 0; turn < 2; turn++) {
            int one = turn == 0 ? a : b;
            int two = turn == 0 ? b : a;
            for (int k = 0; k < x.outcomes(one); k++) {
                long outcome = x.outcome(one, k);
                if (!x.allows(two, outcome) && (least < 0 || outcome < least)) {
                    least = outcome;
                }
            }
        }
        return least;
    }

    private static void promise12Soonest() {
        OrderMachines x = Programs.made("0001 0011 0323 1000 1002");
        due.answer("0 is there at once", 0, () -> x.soonest(1, 0, 0));
        due.answer("PLAIN write", 1, () -> x.soonest(0, 0, 1));
        due.answer("ROWS write and drain", 2, () -> x.soonest(1, 0, 1));
        due.answer("PLAIN second write", 2, () -> x.soonest(0, 1, 1));
        due.answer("ROWS second write behind the first", 4, () -> x.soonest(1, 1, 1));
        due.answer("PLACES second write passes", 3, () -> x.soonest(2, 1, 1));
        due.answer("write through waits for the buffer", 5, () -> x.soonest(1, 2, 3));
        due.answer("write through in PLAIN", 3, () -> x.soonest(0, 2, 3));
        due.answer("second write of thread 1", 4, () -> x.soonest(1, 0, 2));
        due.answer("never", -1, () -> x.soonest(2, 3, 1));
        due.answer("never that number", -1, () -> x.soonest(0, 0, 3));
        for (int wrong : WRONG_DIGITS) {
            due.thrown("soonest of place " + wrong, ILLEGAL, () -> x.soonest(0, wrong, 0));
            due.thrown("soonest of number " + wrong, ILLEGAL, () -> x.soonest(0, 0, wrong));
            due.thrown("soonest of kind " + wrong, ILLEGAL, () -> x.soonest(wrong, 0, 0));
        }
    }

    /** Buffers always drain, so no program is ever stuck; a machine that did not drain would be. */
    private static void promise13Stuck() {
        for (String program : new String[] {STORES, MESSAGE, "0001 0002 0003 0001 0200", "0001 1200 2001 3301", "0001 0200 1011 1311"}) {
            OrderMachines x = Programs.made(program);
            for (int kind = 0; kind < 4; kind++) {
                int k = kind;
                due.answer("stuck of " + program + ": " + kind, 0, () -> x.stuck(k));
            }
        }
    }

    private static void promise14Count() {
        OrderMachines x = Programs.made("1001 1011 1021 1110 1100 3301 3302 3100 3100 3200");
        int[] wants = {10, 2, 3, 4, 1, 2};
        for (int what = 0; what < 6; what++) {
            int w = what;
            due.answer("count " + what, wants[what], () -> x.count(w));
        }
        for (int wrong : new int[] {-1, 6, 7, Integer.MIN_VALUE, Integer.MAX_VALUE}) {
            due.answer("count " + wrong, -1, () -> x.count(wrong));
        }
        OrderMachines vast = Programs.made(VAST);
        due.answer("count needs no room", 20, () -> vast.count(0));
        due.answer("all four threads", 4, () -> vast.count(1));
    }

    private static void kindsThatAreNone() {
        OrderMachines x = Programs.made(STORES);
        for (int wrong : WRONG_KINDS) {
            due.thrown("outcomes " + wrong, ILLEGAL, () -> x.outcomes(wrong));
            due.thrown("outcome " + wrong, ILLEGAL, () -> x.outcome(wrong, -1));
            due.thrown("states " + wrong, ILLEGAL, () -> x.states(wrong));
            due.thrown("row " + wrong, ILLEGAL, () -> x.row(wrong, -1, -1));
            due.thrown("cuts " + wrong, ILLEGAL, () -> x.cuts(wrong));
            due.thrown("cut " + wrong, ILLEGAL, () -> x.cut(wrong, -1));
            due.thrown("allows " + wrong, ILLEGAL, () -> x.allows(wrong, 80) ? 1 : 0);
            due.thrown("stuck " + wrong, ILLEGAL, () -> x.stuck(wrong));
        }
    }

    private static void noRoom() {
        OrderMachines x = Programs.made(VAST);
        for (int kind = 0; kind < 4; kind++) {
            int k = kind;
            due.thrown("no room, outcomes " + k, UNSUPPORTED, () -> x.outcomes(k));
            due.thrown("no room, outcome " + k, UNSUPPORTED, () -> x.outcome(k, 0));
            due.thrown("no room, wrong outcome " + k, UNSUPPORTED, () -> x.outcome(k, -1));
            due.thrown("no room, states " + k, UNSUPPORTED, () -> x.states(k));
            due.thrown("no room, row " + k, UNSUPPORTED, () -> x.row(k, 0, 0));
            due.thrown("no room, wrong row " + k, UNSUPPORTED, () -> x.row(k, -1, -1));
            due.thrown("no room, cuts " + k, UNSUPPORTED, () -> x.cuts(k));
            due.thrown("no room, cut " + k, UNSUPPORTED, () -> x.cut(k, 0));
            due.thrown("no room, wrong cut " + k, UNSUPPORTED, () -> x.cut(k, -1));
            due.thrown("no room, allows " + k, UNSUPPORTED, () -> x.allows(k, 0) ? 1 : 0);
            due.thrown("no room, differs " + k, UNSUPPORTED, () -> x.differs(k, k));
            due.thrown("no room, differs from none " + k, ILLEGAL, () -> x.differs(k, 4));
            due.thrown("no room, none differs from " + k, ILLEGAL, () -> x.differs(-1, k));
            due.thrown("no room, soonest " + k, UNSUPPORTED, () -> x.soonest(k, 0, 0));
            due.thrown("no room, soonest of no place " + k, ILLEGAL, () -> x.soonest(k, 4, 0));
            due.thrown("no room, soonest of no number " + k, ILLEGAL, () -> x.soonest(k, 0, -1));
            due.thrown("no room, stuck " + k, UNSUPPORTED, () -> x.stuck(k));
        }
        // PLAIN has room for what the others have none for.
        OrderMachines y = Programs.made("0001 0002 0003 0001 1011 1012 1013 1011 2021 2022 2023 2021 3031 3032 3033");
        due.answer("room in PLAIN", 500, () -> y.states(0));
        due.thrown("none in ROWS", UNSUPPORTED, () -> y.states(1));
        due.thrown("differs 0, 1 without room", UNSUPPORTED, () -> y.differs(0, 1));
        due.thrown("differs 1, 0 without room", UNSUPPORTED, () -> y.differs(1, 0));
        due.answer("PLAIN as before", 500, () -> y.states(0));
    }

    private static void changesAreSeen() {
        OrderMachines x = new OrderMachines();
        int[] rows = {3, 6, 10, 14, 18};
        for (int i = 0; i < 5; i++) {
            int n = i;
            x.action(1, 0, 2, 1);
            due.answer("ROWS after write " + i, rows[i], () -> x.states(1));
            due.answer("PLAIN after write " + i, n + 2, () -> x.states(0));
        }
        due.thrown("a sixth changes nothing", UNSUPPORTED, () -> x.action(1, 0, 2, 1));
        due.answer("ROWS after the sixth", 18, () -> x.states(1));
        Programs.add(x, "0001 0002 0003 0001 0002 2031 2032 2033 2031 2032 3011 3012");
        due.thrown("then no room", UNSUPPORTED, () -> x.states(1));
        x.clear();
        Programs.add(x, STORES);
        due.answer("then room again", 34, () -> x.states(1));
        due.answer("and its outcomes", 80, () -> x.outcome(1, 0));
        due.answer("and its cuts", 4, () -> x.cuts(1));
        due.answer("and its row", 5, () -> x.row(1, 0, 5));
    }

    private static void reads() {
        // The newest of the buffer's entries for the place, whatever the place is by then.
        OrderMachines own = Programs.made("0001 0002 0010 0100");
        for (int kind = 0; kind < 4; kind++) {
            int k = kind;
            due.answer("own newest " + kind, Programs.outcome(Programs.register(0, 0), 2, Programs.place(0), 2), () -> own.outcome(k, 0));
            due.answer("own newest alone " + kind, 1, () -> own.outcomes(k));
        }
        // Thread 1 sees what its pair's buffer has; thread 2 does not.
        OrderMachines pair = Programs.made("0001 1100");
        due.answer("pair's states", 8, () -> pair.states(3));
        due.answer("row states", 7, () -> pair.states(1));
        OrderMachines apart = Programs.made("0001 2100");
        due.answer("other pair's states", 7, () -> apart.states(3));
        // A later read of the same register takes the place of the first.
        OrderMachines twice = Programs.made("0301 0100 0110");
        due.answer("register read twice", Programs.outcome(Programs.place(0), 1), () -> twice.outcome(1, 0));
    }

    private static void fencesAndWritesThrough() {
        // With fences between write and read no buffer makes a difference.
        OrderMachines fenced = Programs.made("0001 0200 0110 1011 1200 1100");
        due.answer("fenced stores 0, 1", -1, () -> fenced.differs(0, 1));
        due.answer("fenced stores 0, 2", -1, () -> fenced.differs(0, 2));
        OrderMachines through = Programs.made("0301 0110 1311 1100");
        due.answer("stores through 0, 1", -1, () -> through.differs(0, 1));
        due.answer("stores through, states", 13, () -> through.states(1));
        OrderMachines message = Programs.made("0001 0311 1110 1101");
        due.answer("message through 0, 2", -1, () -> message.differs(0, 2));
        // What waits for an empty buffer waits for the pair's, not for its own thread's entries alone.
        OrderMachines fence = Programs.made("0001 1100 1200");
        due.answer("pair's fence", 12, () -> fence.states(3));
        due.answer("own fence", 11, () -> fence.states(1));
        OrderMachines pair = Programs.made("0001 1100 1311 2110 2101");
        long early = Programs.outcome(Programs.register(1, 0), 1, Programs.register(2, 0), 1, Programs.place(0), 1, Programs.place(1), 1);
        due.answer("pair's write through is not early", 0, () -> pair.allows(3, early) ? 1 : 0);
        long late = early + Programs.outcome(Programs.register(2, 1), 1);
        due.answer("pair's write through is late", 1, () -> pair.allows(3, late) ? 1 : 0);
    }
}
