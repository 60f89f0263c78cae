import java.util.ArrayList;
import java.util.List;

/** The sentences of the promises 1 to 14 that name a boundary case, each with a test of its own. */
public final class EdgesTest {
    private static final Sentences promises = new Sentences("EdgesTest");

    /** Twenty actions, with more states than any kind has room for. */
    private static final String VAST = "program 0001 0110 0121 0002 0133 1011 1100 1121 1012 1133"
            + " 2021 2100 2111 2022 2133 3031 3100 3111 3032 3123";
    /** PLAIN has room for it (500 states), the other kinds have none. */
    private static final String PLAIN_ALONE = "program 0001 0002 0003 0001 1011 1012 1013 1011 2021 2022 2023 2021 3031 3032 3033";
    /** Each thread writes what the other one reads. */
    private static final String STORES = "program 0001 0110 1011 1100";
    /** Each reader sees 0 .. 3 rise in one of 35 ways: 1225 outcomes in each kind. */
    private static final String READERS = "program 0001 0002 0003 1100 1101 1102 1103 2100 2101 2102 2103";

    public static void main(String[] args) {
        promise1();
        promise2Taken();
        promise2CanNotBe();
        promise2Five();
        promise3();
        promise4();
        promise5();
        promise6();
        promise7();
        promise7NoneBehind();
        promise8();
        promise9();
        promise10();
        promise11();
        promise11EitherWay();
        promise12();
        promise13();
        promise14();
        promises.end();
    }

    private static void promise1() {
        promises.holds("Promise 1: No threads' actions",
                "count 0 = 0", "count 1 = 0", "count 2 = 0", "count 3 = 0", "count 4 = 0", "count 5 = 0",
                "states any = 1", "outcomes any = 1", "outcome any 0 = 0", "row any 0 0 = -1", "cuts any = 1", "cut any 0 = 0",
                "allows any 0 = 1", "differs any any = -1", "soonest any any 0 = 0", "soonest any any 1 = -1", "stuck any = 0",
                "action any 2 0 0 = 1");
        promises.holds("Promise 1: No threads' actions, whatever another object has",
                VAST, "states any = unsupported", "new", "count 0 = 0", "states any = 1", "action any 2 0 0 = 1");
    }

    private static void promise2Taken() {
        promises.holds("Promise 2: A thread's action more: how many it has",
                "action 3 0 3 3 = 1", "action 3 1 3 3 = 2", "action 0 3 3 3 = 1", "action 3 2 0 0 = 3", "action 0 2 0 0 = 2",
                "action 3 3 3 3 = 4", "action 3 0 0 0 = 5", "action 0 1 0 0 = 3", "action 1 0 0 0 = 1", "count 0 = 9");
        for (int what : new int[] {0, 1, 3}) {
            for (int n = 0; n < 4; n++) {
                String w = " " + what;
                promises.holds("Promise 2: What 0 WRITE, 1 READ, 3 WRITE THROUGH, of any place: " + what + ", " + n,
                        "action any" + w + " 0 " + n + " = 1", "action any" + w + " 1 " + n + " = 2",
                        "action any" + w + " 2 " + n + " = 3",
                        "action any" + w + " 3 " + n + " = 4", "count 0 = 16", "count " + (2 + what) + " = 16");
            }
        }
        promises.holds("Promise 2: 2 FENCE (both 0)",
                "action any 2 0 0 = 1", "action any 2 fences-not 0 = illegal", "action any 2 0 fences-not = illegal",
                "action 0 2 fences-not fences-not = illegal", "count 4 = 4", "count 0 = 4", "states any = 16");
    }

    private static void promise2CanNotBe() {
        String sentence = "Promise 2: IllegalArgumentException, when that can not be";
        promises.holds(sentence + ": no such thread", "action no any 0 0 = illegal", "count 0 = 0", "count 1 = 0",
                "states any = 1");
        promises.holds(sentence + ": no such what", "action any no 0 0 = illegal", "action 0 no 1 1 = illegal", "count 0 = 0",
                "states any = 1");
        promises.holds(sentence + ": no such place", "action 0 0 no any = illegal", "action 0 1 no any = illegal",
                "action 0 3 no any = illegal",
                "action 0 2 no 0 = illegal", "count 0 = 0", "states any = 1");
        promises.holds(sentence + ": no such number", "action 0 0 any no = illegal", "action 0 3 any no = illegal",
                "count 0 = 0", "states any = 1");
        promises.holds(sentence + ": no such register", "action 0 1 any no = illegal", "count 0 = 0", "states any = 1");
        promises.holds(sentence + ": nothing is right", "action min min min min = illegal", "action max max max max = illegal",
                "action min max min max = illegal", "action max min max min = illegal", "action no no no 0 = illegal",
                "count 0 = 0");
        promises.holds(sentence + ": and nothing is changed", STORES, "states 1 = 34", "action 0 0 4 0 = illegal",
                "action 4 0 0 0 = illegal",
                "action 1 2 1 0 = illegal", "states 1 = 34", "count 0 = 4", "action 0 2 0 0 = 3");
    }

    private static void promise2Five() {
        String sentence = "Promise 2: UnsupportedOperationException, when the thread has five";
        for (int thread = 0; thread < 4; thread++) {
            String t = "action " + thread;
            promises.holds(sentence + ": " + thread,
                    t + " 0 3 3 = 1", t + " 1 3 3 = 2", t + " 2 0 0 = 3", t + " 3 3 3 = 4", t + " 0 3 1 = 5",
                    t + " 0 any any = unsupported", t + " 1 any any = unsupported", t + " 2 0 0 = unsupported", t + " 3 any any = unsupported",
                    t + " 0 0 no = illegal", t + " 2 0 1 = illegal",
                    "count 0 = 5", "count 1 = 1", "count 2 = 2", "count 3 = 1", "count 4 = 1", "count 5 = 1", "states 0 = 6",
                    "cuts 0 = 3");
        }
        promises.holds(sentence + ": not when others have",
                "program 0200 0200 0200 0200 0200 1200 1200 1200 1200 1200 2200 2200 2200 2200 2200",
                "action 0 2 0 0 = unsupported", "action 1 2 0 0 = unsupported", "action 2 2 0 0 = unsupported",
                "action 3 2 0 0 = 1", "action 3 2 0 0 = 2", "action 3 2 0 0 = 3", "action 3 2 0 0 = 4", "action 3 2 0 0 = 5",
                "action any 2 0 0 = unsupported", "count 0 = 20");
    }

    private static void promise3() {
        promises.holds("Promise 3: All actions go: there are none", "clear = done", "count 0 = 0", "states any = 1",
                "action any 2 0 0 = 1");
        promises.holds("Promise 3: All actions go: twenty", VAST, "count 0 = 20", "states any = unsupported",
                "action any 2 0 0 = unsupported",
                "clear = done", "count 0 = 0", "count 1 = 0", "count 2 = 0", "count 3 = 0", "count 4 = 0", "count 5 = 0",
                "states any = 1", "outcomes any = 1", "outcome any 0 = 0", "outcome any 1 = out", "row any 0 0 = -1",
                "cuts any = 1",
                "cut any 1 = out", "allows any 0 = 1", "differs any any = -1", "soonest any any 0 = 0",
                "soonest any any 1 = -1", "stuck any = 0",
                "action any 2 0 0 = 1", "action any 2 0 0 = 2", "action any 2 0 0 = 3", "action any 2 0 0 = 4",
                "action any 2 0 0 = 5",
                "action any 2 0 0 = unsupported");
        promises.holds("Promise 3: All actions go: what was found goes too", STORES, "outcomes 1 = 4", "allows 1 80 = 1",
                "clear = done",
                "allows any 80 = 0", "allows any 1073741904 = 0", "allows any 274877907024 = 0", "allows any 275951648848 = 0",
                "allows any 0 = 1",
                "outcome 1 0 = 0", "outcome 1 1 = out", "cut 1 1 = out", "row 1 1 0 = out", "clear = done", "outcomes any = 1");
    }

    private static void promise4() {
        promises.holds("Promise 4: outcomes: no such kind", "outcomes no = illegal", STORES, "outcomes no = illegal");
        promises.holds("Promise 4: outcomes: no room", VAST, "outcomes any = unsupported", "outcomes no = illegal",
                "new", PLAIN_ALONE, "outcomes 0 = 1", "outcomes 1 = unsupported", "outcomes 2 = unsupported",
                "outcomes 3 = unsupported", "outcomes 0 = 1");
        promises.holds("Promise 4: outcomes: the smallest programs", "outcomes any = 1", "program 0200", "outcomes any = 1",
                "new", "program 3100", "outcomes any = 1", "new", "program 0000", "outcomes any = 1");
        promises.holds("Promise 4: outcomes: several, and many", STORES, "outcomes 0 = 3", "outcomes 1 = 4", "outcomes 2 = 4",
                "outcomes 3 = 3",
                "new", READERS, "outcomes any = 1225");
    }

    /** What a reader of four sees: numbers that never fall, as four digits, the least first. */
    private static List<Long> rises() {
        List<Long> rises = new ArrayList<>();
        for (long n = 0; n < 256; n++) {
            if (n / 64 <= n / 16 % 4 && n / 16 % 4 <= n / 4 % 4 && n / 4 % 4 <= n % 4) {
                rises.add(n);
            }
        }
        return rises;
    }

    private static void promise5() {
        promises.holds("Promise 5: no such kind", STORES, "outcome no 0 = illegal", "outcome no -1 = illegal",
                "outcome no max = illegal");
        promises.holds("Promise 5: no room", VAST, "outcome any 0 = unsupported", "outcome any below = unsupported",
                "outcome any max = unsupported");
        promises.holds("Promise 5: the least first", STORES,
                "outcome 0 0 = 1073741904", "outcome 0 1 = 274877907024", "outcome 0 2 = 275951648848",
                "outcome 1 0 = 80", "outcome 1 1 = 1073741904", "outcome 1 2 = 274877907024", "outcome 1 3 = 275951648848",
                "outcome 2 0 = 80", "outcome 2 3 = 275951648848", "outcome 3 0 = 1073741904", "outcome 3 2 = 275951648848");
        List<Long> rises = rises();
        for (int kind = 0; kind < 4; kind++) {
            for (int first = 0; first < rises.size(); first++) {
                String[] lines = new String[1 + rises.size()];
                lines[0] = READERS;
                for (int second = 0; second < rises.size(); second++) {
                    long outcome = (rises.get(first) * 256 + rises.get(second)) * 256 * 256 + 192;
                    lines[1 + second] = "outcome " + kind + " " + (first * rises.size() + second) + " = " + outcome;
                }
                promises.holds("Promise 5: the least first, of many", lines);
            }
        }
        String none = "Promise 5: IndexOutOfBoundsException, when there is none";
        promises.holds(none + ": of one", "outcome any 0 = 0", "outcome any 1 = out", "outcome any below = out",
                "outcome any max = out");
        promises.holds(none + ": of three and four", STORES, "outcome any below = out", "outcome any max = out",
                "outcome any 16 = out",
                "outcome 0 3 = out", "outcome 1 4 = out", "outcome 2 4 = out", "outcome 3 3 = out");
        promises.holds(none + ": of many", READERS, "outcome any 1224 = 4294901952", "outcome any 1225 = out",
                "outcome any 1226 = out",
                "outcome any 2048 = out", "outcome any 12000 = out", "outcome any below = out", "outcome any max = out");
    }

    private static void promise6() {
        promises.holds("Promise 6: states: no such kind", "states no = illegal", STORES, "states no = illegal");
        promises.holds("Promise 6: states: no room", VAST, "states any = unsupported", "states no = illegal",
                "new", PLAIN_ALONE, "states 0 = 500", "states 1 = unsupported", "states 2 = unsupported",
                "states 3 = unsupported", "states 0 = 500");
        promises.holds("Promise 6: states: the smallest programs", "states any = 1", "program 0200", "states any = 2",
                "new", "program 3100", "states any = 2", "new", "program 0300", "states any = 2",
                "new", "program 0000", "states 0 = 2", "states 1 = 3", "states 2 = 3", "states 3 = 3");
        // Powers of two, as rows of states may be just full with them.
        promises.holds("Promise 6: states: 256 and 2048", "program 0301 0302 0303 1311 1312 1313 2321 2322 2323 3331 3332 3333",
                "states any = 256",
                "steps any 0 = 0 0 0 1 1 1 2 2 2 3 3 3",
                "new", "program 0001 0200 0001 0200 0200 1011 1200 1011 1200 1200 2021 2200 2021 2200 2200 3200 3200 3200",
                "states 1 = 2048", "states 2 = 2048", "steps 1 0 = 0 1 2 3 3 3 4 0 0 4 0 0 5 1 1 5 1 1 6 2 2 6 2 2",
                "outcome 1 0 = 84");
        promises.holds("Promise 6: states: some hundred, some thousand",
                "program 0001 0001 0001 0001 0001 1011 1011 1011 1011 1011", "states 0 = 36",
                "states 1 = 324", "states 2 = 324", "program 2021 2021 2021 2021 2021", "states 0 = 216", "states 1 = 5832",
                "states 2 = 5832",
                "program 3200", "states 0 = 432", "states 1 = 11664", "states 2 = 11664", "program 3200", "states 0 = 648",
                "states 1 = unsupported");
    }

    private static void promise7() {
        promises.holds("Promise 7: no such kind", STORES, "row no 0 0 = illegal", "row no -1 0 = illegal",
                "row no 0 -1 = illegal", "row no max min = illegal");
        promises.holds("Promise 7: no room", VAST, "row any 0 0 = unsupported", "row any 0 max = unsupported",
                "row any below 0 = unsupported",
                "row any 0 below = unsupported", "row any max min = unsupported");
        String none = "Promise 7: IndexOutOfBoundsException, when there is no such outcome";
        promises.holds(none + ": of one", "row any 1 0 = out", "row any below 0 = out", "row any max 0 = out",
                "row any 1 max = out",
                "row any below max = out", "row any max max = out");
        promises.holds(none + ": of three and four", STORES, "row 0 2 0 = 0", "row 0 3 0 = out", "row 1 3 0 = 0",
                "row 1 4 0 = out",
                "row 2 3 0 = 0", "row 2 4 0 = out", "row 3 2 0 = 0", "row 3 3 0 = out", "row any below 0 = out",
                "row any max 0 = out",
                "row any 4 max = out", "row any 16 0 = out");
        promises.holds(none + ": of many", READERS, "row any 1224 0 = 0", "row any 1225 0 = out", "row any 1225 99 = out",
                "row any 12000 0 = out");
        String below = "Promise 7: IndexOutOfBoundsException, when .. i is below 0";
        promises.holds(below, "row any 0 below = out", STORES, "row any 0 below = out", "row any 2 below = out", "row 1 0 0 = 0");
        promises.holds(below + ", and no such outcome", STORES, "row any below below = out", "row any 4 below = out",
                "row any max min = out",
                "row any min min = out");
    }

    private static void promise7NoneBehind() {
        String sentence = "Promise 7: NONE behind its last one";
        promises.holds(sentence + ": there is no step", "row any 0 0 = -1", "row any 0 1 = -1", "row any 0 max = -1");
        promises.holds(sentence + ": one step", "program 2200", "row any 0 0 = 2", "row any 0 1 = -1", "row any 0 2 = -1",
                "row any 0 max = -1");
        promises.holds(sentence + ": four or six", STORES, "row 0 0 3 = 1", "row 0 0 4 = -1", "row 0 0 5 = -1", "row 1 0 5 = 5",
                "row 1 0 6 = -1",
                "row 2 0 5 = 13", "row 2 0 6 = -1", "row 3 0 5 = 4", "row 3 0 6 = -1", "row any 0 32 = -1", "row any 0 40 = -1",
                "row any 0 41 = -1",
                "row any 0 65536 = -1", "row any 0 max = -1");
        promises.holds(sentence + ": twenty, the most in PLAIN",
                "program 0001 0001 0001 0001 0001 1011 1011 1011 1011 1011 2021 2021 2021 2021 2021 3031 3031 3031 3031 3031",
                "states 0 = 1296",
                "steps 0 0 = 0 0 0 0 0 1 1 1 1 1 2 2 2 2 2 3 3 3 3 3", "row 0 0 21 = -1", "row 0 0 max = -1");
        promises.holds(sentence + ": thirty-one",
                "program 0001 0001 0001 0001 0001 1011 1011 1011 1011 1011 2021 2021 2021 2021 2021 3200",
                "steps 1 0 = 0 0 0 1 1 1 2 2 2 3 4 0 4 0 4 4 4 5 1 5 1 5 5 5 6 2 6 2 6 6 6",
                "steps 2 0 = 0 0 0 1 1 1 2 2 2 3 8 0 8 0 8 8 8 13 1 13 1 13 13 13 18 2 18 2 18 18 18",
                "row 1 0 32 = -1", "row 2 0 max = -1");
    }

    private static void promise8() {
        promises.holds("Promise 8: cuts: no such kind", "cuts no = illegal", STORES, "cuts no = illegal");
        promises.holds("Promise 8: cuts: no room", VAST, "cuts any = unsupported", "cuts no = illegal",
                "new", PLAIN_ALONE, "cuts 0 = 256", "cuts 1 = unsupported", "cuts 2 = unsupported", "cuts 3 = unsupported",
                "cuts 0 = 256");
        promises.holds("Promise 8: cuts: the smallest programs", "cuts any = 1", "program 0200", "cuts any = 1", "program 0100",
                "cuts any = 1",
                "program 0000", "cuts any = 1", "program 0001", "cuts any = 2");
        promises.holds("Promise 8: cuts: all there are", "program 0301 0302 0303 1311 1312 1313 2321 2322 2323 3331 3332 3333",
                "cuts any = 256");
    }

    private static void promise9() {
        promises.holds("Promise 9: no such kind", STORES, "cut no 0 = illegal", "cut no -1 = illegal", "cut no max = illegal");
        promises.holds("Promise 9: no room", VAST, "cut any 0 = unsupported", "cut any below = unsupported",
                "cut any max = unsupported");
        promises.holds("Promise 9: the least first", STORES, "cut any 0 = 0", "cut any 1 = 16", "cut any 2 = 64",
                "cut any 3 = 80",
                "new", "program 0333 0322 0311 0300", "cuts any = 4", "cut any 0 = 0", "cut any 1 = 3", "cut any 2 = 11",
                "cut any 3 = 27",
                "new", "program 0303 0301 0302", "cuts any = 4", "cut any 0 = 0", "cut any 1 = 64", "cut any 2 = 128",
                "cut any 3 = 192");
        String[] all = new String[257];
        all[0] = "program 0301 0302 0303 1311 1312 1313 2321 2322 2323 3331 3332 3333";
        for (int cut = 0; cut < 256; cut++) {
            all[1 + cut] = "cut " + cut % 4 + " " + cut + " = " + cut;
        }
        promises.holds("Promise 9: the least first, of all there are", all);
        String none = "Promise 9: IndexOutOfBoundsException, when there is none";
        promises.holds(none + ": of one", "cut any 0 = 0", "cut any 1 = out", "cut any below = out", "cut any 255 = out",
                "cut any 256 = out", "cut any max = out");
        promises.holds(none + ": of four", STORES, "cut any 4 = out", "cut any 5 = out", "cut any below = out",
                "cut any 255 = out", "cut any 256 = out",
                "cut any max = out");
        promises.holds(none + ": of all there are", all[0], "cut any 255 = 255", "cut any 256 = out", "cut any 257 = out",
                "cut any below = out", "cut any max = out");
    }

    private static void promise10() {
        promises.holds("Promise 10: allows: no such kind", STORES, "allows no 80 = illegal", "allows no -1 = illegal",
                "allows no least-long = illegal",
                "allows no greatest-long = illegal");
        promises.holds("Promise 10: allows: no room", VAST, "allows any 0 = unsupported", "allows any -1 = unsupported",
                "allows any least-long = unsupported",
                "allows any greatest-long = unsupported", "allows no 0 = illegal");
        promises.holds("Promise 10: allows: the smallest programs", "allows any 0 = 1", "allows any 1 = 0", "allows any -1 = 0",
                "program 0001",
                "allows any 64 = 1", "allows any 0 = 0", "allows any 63 = 0", "allows any 65 = 0");
        String other = "Promise 10: allows: what no kind has";
        promises.holds(other + ": too small or too great", "allows any least-long = 0", "allows any greatest-long = 0",
                "allows any min = 0", "allows any max = 0",
                "allows any 1099511627775 = 0", "allows any 1099511627776 = 0", "allows any -1099511627776 = 0");
        String[] alike = new String[1 + 64 - 14];
        alike[0] = STORES;
        // Numbers whose lower bits are an outcome's, as if the higher ones were cut off.
        for (int bit = 14; bit < 64; bit++) {
            alike[bit - 13] = "allows any " + (80 ^ (bit == 30 || bit == 38 ? 3L << bit : 1L << bit)) + " = 0";
        }
        promises.holds(other + ": one bit more", alike);
        promises.holds(other + ": an outcome with a sign", STORES, "allows any -80 = 0", "allows any -1073741904 = 0",
                "allows any -275951648848 = 0",
                "allows any -81 = 0", "new", "program 0001", "allows any -64 = 0", "allows any -65 = 0");
        // As many as a row of sixteen holds: nothing may be looked for behind it.
        promises.holds(other + ": behind the last of sixteen", "program 0001 0002 0003 1100 2100", "outcomes any = 16",
                "outcome any 16 = out",
                "row any 16 0 = out", "allows any greatest-long = 0", "allows any least-long = 0", "differs any any = -1");
        promises.holds("Promise 10: allows: the least and the greatest, and what lies beside", STORES,
                "allows 1 79 = 0", "allows 1 80 = 1", "allows 1 81 = 0", "allows 0 80 = 0", "allows 2 80 = 1", "allows 3 80 = 0",
                "allows any 275951648847 = 0", "allows any 275951648848 = 1", "allows any 275951648849 = 0",
                "new",
                "program 0333 0130 0131 0132 0133 1323 1120 1121 1122 1123 2313 2110 2111 2112 2113 3303 3100 3101 3102 3103",
                "allows any 1099511627775 = 1", "allows any 1099511627774 = 0", "allows any 1099511627776 = 0",
                "allows any -1 = 0");
    }

    private static void promise11() {
        promises.holds("Promise 11: differs: no such kind", "differs no any = illegal", "differs any no = illegal",
                "differs no no = illegal",
                "new", STORES, "differs no any = illegal", "differs any no = illegal", "differs no no = illegal");
        promises.holds("Promise 11: differs: no room", VAST, "differs any any = unsupported", "differs no any = illegal",
                "differs any no = illegal",
                "new", PLAIN_ALONE, "differs 0 0 = -1", "differs 0 1 = unsupported", "differs 0 2 = unsupported",
                "differs 0 3 = unsupported",
                "differs 1 0 = unsupported", "differs 2 0 = unsupported", "differs 3 0 = unsupported",
                "differs 1 2 = unsupported", "differs 0 0 = -1");
        promises.holds("Promise 11: or NONE", "differs any any = -1", "program 0001 0200", "differs any any = -1",
                "new", READERS, "differs any any = -1",
                "new", STORES, "differs 0 0 = -1", "differs 1 1 = -1", "differs 2 2 = -1", "differs 3 3 = -1",
                "differs 1 2 = -1", "differs 0 3 = -1");
    }

    private static void promise11EitherWay() {
        String sentence = "Promise 11: The least outcome that one kind has and the other one has not (either way)";
        promises.holds(sentence + ": the one", STORES, "differs 1 0 = 80", "differs 2 0 = 80", "differs 1 3 = 80",
                "differs 2 3 = 80");
        promises.holds(sentence + ": the other", STORES, "differs 0 1 = 80", "differs 0 2 = 80", "differs 3 1 = 80",
                "differs 3 2 = 80");
        // Two rows of two writes, each against the other's order: only PLACES turns one of them.
        promises.holds(sentence + ": it is 0", "program 1000 1012 0310 0302", "allows 0 0 = 0", "allows 1 0 = 0",
                "allows 2 0 = 1", "allows 3 0 = 0",
                "differs 0 2 = 0", "differs 2 0 = 0", "differs 1 2 = 0", "differs 2 1 = 0", "differs 2 3 = 0",
                "differs 3 2 = 0", "differs 0 1 = -1");
        promises.holds(sentence + ": both have one, ROWS the least", "program 0301 2002 3011 3100 2110 0110 0111 2101",
                "allows 1 1048656 = 1", "allows 3 1048656 = 0", "allows 1 6307920 = 0", "allows 3 6307920 = 1",
                "differs 1 3 = 1048656", "differs 3 1 = 1048656");
        promises.holds(sentence + ": both have one, PAIRS the least", "program 0312 1011 0111 1100 0111 2001 2010 0100",
                "allows 3 68719476816 = 1", "allows 1 68719476816 = 0", "allows 3 274877907024 = 0", "allows 1 274877907024 = 1",
                "differs 1 3 = 68719476816", "differs 3 1 = 68719476816");
        promises.holds(sentence + ": it is greater than all of the other one", "program 0301 0000 0010 1011 1100",
                "outcomes 1 = 4", "outcome 1 3 = 1073741840", "outcome 0 2 = 1073741824", "outcomes 0 = 3",
                "differs 0 1 = 1073741840", "differs 1 0 = 1073741840");
    }

    private static void promise12() {
        String cannot = "Promise 12: IllegalArgumentException, also when there is no such place or number";
        promises.holds(cannot + ": place", "soonest any no any = illegal", "new", STORES, "soonest any no any = illegal");
        promises.holds(cannot + ": number", "soonest any any no = illegal", "new", STORES, "soonest any any no = illegal");
        promises.holds(cannot + ": both", "soonest any no no = illegal", "soonest 0 min max = illegal",
                "soonest 0 max min = illegal");
        promises.holds(cannot + ": no such kind", "soonest no any any = illegal", "new", STORES, "soonest no 0 1 = illegal",
                "soonest no no 0 = illegal",
                "soonest no 0 no = illegal", "soonest min min min = illegal", "soonest max max max = illegal");
        promises.holds("Promise 12: no room", VAST, "soonest any any any = unsupported", "soonest any no 0 = illegal",
                "soonest any 0 no = illegal",
                "soonest no 0 0 = illegal", "new", PLAIN_ALONE, "soonest 0 0 3 = 3", "soonest 1 0 3 = unsupported");
        String fewest = "Promise 12: the fewest steps after which place p is v in a state";
        promises.holds(fewest + ": none", "soonest any any 0 = 0", "program 0301 0300", "soonest any any 0 = 0");
        promises.holds(fewest + ": one", "program 3333", "soonest any 3 3 = 1");
        promises.holds(fewest + ": it is that only between", "program 0303 0300", "soonest any 0 3 = 1", "outcome any 0 = 0");
        promises.holds(fewest + ": of two ways", "program 0200 0200 0301 1200 1301", "soonest any 0 1 = 2",
                "new", "program 0200 0200 0301 1001", "soonest 0 0 1 = 1", "soonest 1 0 1 = 2", "soonest 2 0 1 = 2",
                "soonest 3 0 1 = 2");
        promises.holds(fewest + ": five, seven, ten", "program 0010 0020 0030 0000 0003", "soonest 0 0 3 = 5",
                "soonest 1 0 3 = 10", "soonest 2 0 3 = 8",
                "soonest 3 0 3 = 10");
        String never = "Promise 12: NONE when it never is";
        promises.holds(never + ": no action", "soonest any any 1 = -1", "soonest any any 2 = -1", "soonest any any 3 = -1");
        promises.holds(never + ": another number, another place", "program 0002 0313", "soonest any 0 1 = -1",
                "soonest any 0 3 = -1", "soonest any 1 1 = -1",
                "soonest any 1 2 = -1", "soonest any 2 2 = -1", "soonest any 3 3 = -1", "soonest any 2 0 = 0");
        promises.holds(never + ": reads and fences", "program 0113 0200 1132 2121", "soonest any any 1 = -1",
                "soonest any any 2 = -1", "soonest any any 3 = -1");
    }

    /** Buffers always drain, so that no state is stuck; a machine whose entries stay would be. */
    private static void promise13() {
        promises.holds("Promise 13: stuck: no such kind", "stuck no = illegal", STORES, "stuck no = illegal");
        promises.holds("Promise 13: stuck: no room", VAST, "stuck any = unsupported", "stuck no = illegal",
                "new", PLAIN_ALONE, "stuck 0 = 0", "stuck 1 = unsupported", "stuck 2 = unsupported", "stuck 3 = unsupported");
        String sentence = "Promise 13: States without any step that are no ends";
        promises.holds(sentence + ": the smallest programs", "stuck any = 0", "program 0200", "stuck any = 0", "new",
                "program 0000", "stuck any = 0");
        promises.holds(sentence + ": ends do not count", STORES, "stuck any = 0", "new", READERS, "stuck any = 0");
        promises.holds(sentence + ": a full buffer drains", "program 0001 0011 0021 0031 0001", "stuck any = 0",
                "new", "program 3001 3001 3001 2001 2001", "stuck any = 0");
        promises.holds(sentence + ": what waits for an empty one goes on", "program 0001 0011 0021 0200 0302", "stuck any = 0",
                "new", "program 0001 1001 1200 0303 2001 3302", "stuck any = 0");
    }

    private static void promise14() {
        promises.holds("Promise 14: NONE for another what", "count below = -1", "count 6 = -1", "count 7 = -1", "count 8 = -1",
                "count 65536 = -1",
                "count max = -1", VAST, "count below = -1", "count 6 = -1", "count 7 = -1", "count 65536 = -1", "count max = -1");
        promises.holds("Promise 14: count: the smallest programs", "count 0 = 0", "count 1 = 0", "count 2 = 0", "count 3 = 0",
                "count 4 = 0", "count 5 = 0",
                "program 3200", "count 0 = 1", "count 1 = 1", "count 2 = 0", "count 3 = 0", "count 4 = 1", "count 5 = 0");
        promises.holds("Promise 14: Actions (0), of all threads", "program 0200 0200 0200 0200 0200 3200", "count 0 = 6",
                "new", VAST, "count 0 = 20");
        promises.holds("Promise 14: threads with some (1)", "program 3200 3200", "count 1 = 1", "program 0001", "count 1 = 2",
                "program 2100", "count 1 = 3",
                "program 1301", "count 1 = 4", "program 1301", "count 1 = 4", "clear = done", "count 1 = 0");
        String[] names = {"writes (2)", "reads (3)", "fences (4)", "writes through (5)"};
        for (int what = 0; what < 4; what++) {
            String[] lines = new String[11];
            for (int time = 1; time <= 5; time++) {
                lines[2 * time - 2] = "action any " + what + " 0 0 = " + time;
                lines[2 * time - 1] = "count " + (2 + what) + " = " + 4 * time;
            }
            lines[10] = "count " + (2 + (what + 1) % 4) + " = 0";
            promises.holds("Promise 14: " + names[what], lines);
        }
        promises.holds("Promise 14: the place and the number do not count", "program 0033 0000 1133 1100 2333 2300",
                "count 2 = 2", "count 3 = 2",
                "count 5 = 2", "count 4 = 0", "count 0 = 6", "count 1 = 3");
        promises.holds("Promise 14: count needs no room", VAST, "states any = unsupported", "count 0 = 20", "count 1 = 4",
                "count 2 = 8", "count 3 = 12");
    }
}
