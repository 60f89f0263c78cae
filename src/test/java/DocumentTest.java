import java.io.IOException;
import java.nio.file.Files;
import java.nio.file.Path;

/**
 * The document from its first sentence to its last one, in its own words and order, each with runs
 * of calls that would answer otherwise if it did not hold; ordinary programs rather than edges, of
 * which TermsTest and EdgesTest have all. The end looks whether a sentence has been left out.
 */
public final class DocumentTest {
    private static final Path DOCUMENT = Path.of("../shared/DOC.md");

    /** Each of two threads writes a place, then reads the other one's. */
    private static final String STORES = "program 0001 0110 1011 1100";
    /** Thread 0 writes a message to place 0, then a sign to 1; thread 1 reads the sign, then the message. */
    private static final String MESSAGE = "program 0001 0011 1110 1101";
    /** Each of two threads reads a place, then writes what the other one reads. */
    private static final String LOADS = "program 0100 0011 1110 1001";
    /** Threads 0 and 2 write; 1 and 3 read both places, each its neighbour's first. */
    private static final String WITNESSES = "program 0001 1100 1111 2011 3110 3101";
    /** Two threads write the same two places, each begins with the other one's last. */
    private static final String CROSSED = "program 0001 0012 1011 1002";
    /** Each of four threads writes its place, then reads the next one's. */
    private static final String ROUND = "program 0001 0110 1011 1120 2021 2130 3031 3100";
    /** One thread with actions of all four sorts. */
    private static final String ALL_SORTS = "program 2001 2102 2200 2313 2110";
    /** Twenty writes: 1296 states in PLAIN, and no room in the other kinds. */
    private static final String VAST =
            "program 0001 0001 0001 0001 0001 1011 1011 1011 1011 1011 2021 2021 2021 2021 2021 3031 3031 3031 3031 3031";

    private static final Sentences says = new Sentences("DocumentTest");
    private static final StringBuilder read = new StringBuilder();

    public static void main(String[] args) throws IOException {
        whatItIs();
        programs();
        kinds();
        stepsOfThreads();
        stepsOfBuffers();
        ends();
        states();
        cutsAndExceptions();
        promises1To3();
        promises4To6();
        promise7();
        promises8To10();
        promises11To14();
        notPromised();
        nothingLeftOut();
        says.end();
    }

    private static void sentence(String words, String... lines) {
        read.append(words).append(' ');
        says.holds(words, lines);
    }

    /** One more run of calls for the sentence before. */
    private static void also(String told, String... lines) {
        says.holds(told, lines);
    }

    /** An outcome by its digits that are not 0: r21=3 is register 1 of thread 2, p0=1 is place 0. */
    private static long outcome(String digits) {
        long outcome = 0;
        for (String digit : digits.split(" ")) {
            boolean isPlace = digit.charAt(0) == 'p';
            int thread = digit.charAt(1) - '0';
            int which = isPlace ? Programs.place(thread) : Programs.register(thread, digit.charAt(2) - '0');
            outcome += Programs.outcome(which, digit.charAt(digit.length() - 1) - '0');
        }
        return outcome;
    }

    /** For each kind 1 or 0, whether it has the outcome. */
    private static void allowed(String told, String program, String digits, String kinds) {
        long outcome = outcome(digits);
        for (int kind = 0; kind < 4; kind++) {
            also(told + ", kind " + kind, program, "allows " + kind + " " + outcome + " = " + kinds.charAt(kind));
        }
    }

    private static void whatItIs() {
        sentence("Machines of memory for small programs of several threads: without buffers, with one for each thread, one for each"
                + " thread and place, one for two threads; all ways to go step by step, what comes out, by which shortest row of"
                + " steps, and what memory may be when all is cut off.",
                STORES, "outcomes 0 = 3", "outcomes 1 = 4", "outcomes 2 = 4", "outcomes 3 = 3", "steps 1 0 = 0 0 1 1 4 5", "cuts any = 4");
        allowed("both read 0", STORES, "p0=1 p1=1", "0110");
        allowed("both read 0, in two pairs", "program 0001 0110 2011 2100", "p0=1 p1=1", "0111");
        allowed("the sign without the message", MESSAGE, "r10=1 p0=1 p1=1", "0010");
        allowed("the sign without the message, in two pairs", "program 0001 0011 2110 2101", "r20=1 p0=1 p1=1", "0010");
        allowed("both read what is written later", LOADS, "r00=1 r10=1 p0=1 p1=1", "0000");
        allowed("two witnesses of two orders", WITNESSES, "r10=1 r30=1 p0=1 p1=1", "0001");
        allowed("two witnesses, the writers in one pair", "program 0001 1011 2100 2111 3110 3101", "r20=1 r30=1 p0=1 p1=1", "0000");
        allowed("the first writes come last", CROSSED, "p0=1 p1=1", "0010");
        allowed("a write comes last, its read came first", "program 0001 0011 1012 1100", "p0=1 p1=2", "0110");
        allowed("a write after what was read comes before it", "program 0002 0011 1110 1001", "r10=1 p0=2 p1=1", "0010");
        allowed("what was read and passed on is seen", "program 0001 1100 1011 2110 2101", "r10=1 r20=1 p0=1 p1=1", "0000");
        allowed("a place does not go back", "program 0001 1100 1101", "r10=1 p0=1", "0000");
        allowed("all four read 0", ROUND, "p0=1 p1=1 p2=1 p3=1", "0111");

        String[] calls = new String[512];
        calls[0] = "action 0 0 0 1 = 1";
        calls[1] = "action 0 1 1 0 = 2";
        calls[2] = "action 1 0 1 1 = 1";
        calls[3] = "action 1 1 0 0 = 2";
        String[] asked = {"states 3 = 41", "outcome 1 0 = 80", "row 1 0 4 = 4", "cut 2 3 = 80", "differs 0 1 = 80", "soonest 1 0 1 = 2",
            "allows 0 80 = 0", "count 0 = 4", "stuck 1 = 0", "outcomes 3 = 3", "cuts 0 = 4", "row 2 0 5 = 13"};
        for (int call = 4; call < 512; call++) {
            calls[call] = asked[call % asked.length];
        }
        sentence("An object is used for at most 512 calls after it has been made; what later calls answer is free.", calls);
    }

    private static void programs() {
        sentence("A PROGRAM has up to 4 THREADS, each with up to 5 ACTIONS: a WRITE of a number 0 .. 3 to a place 0 .. 3, a READ of a"
                + " place into the thread's register 0 .. 3, a FENCE, a WRITE THROUGH.",
                ALL_SORTS, "outcomes any = 1", "outcome any 0 = " + outcome("r22=1 r20=3 p0=1 p1=3"), "steps 0 0 = 2 2 2 2 2",
                "steps 1 0 = 2 2 6 2 2 2", "steps 2 0 = 2 2 16 2 2 2", "steps 3 0 = 2 2 5 2 2 2");
        also("a thread's actions in their order, whenever others' come between",
                "program 0301 1311 0302 1312 0303 1313", "states any = 16", "outcomes any = 1", "outcome any 0 = " + outcome("p0=3 p1=3"),
                "steps any 0 = 0 0 0 1 1 1", "soonest any 0 3 = 3", "soonest any 1 1 = 1");
        sentence("Places and registers are 0 at first.",
                "program 0101 1311", "outcomes any = 1", "outcome any 0 = " + outcome("p1=1"),
                "program 1102 2303", "outcomes any = 4", "outcome any 0 = " + outcome("p0=3 p1=1"), "soonest any 2 0 = 0");
    }

    private static void kinds() {
        sentence("KINDS of machines: 0 PLAIN;", MESSAGE, "outcomes 0 = 3", "steps 0 0 = 1 1 0 0", "steps 0 1 = 0 1 0 1",
                "steps 0 2 = 0 0 1 1", "cuts 0 = 3", "soonest 0 1 1 = 2");
        sentence("1 ROWS: each thread has a BUFFER;", ROUND, "allows 0 85 = 0", "allows 1 85 = 1", "outcome 1 0 = 85",
                "steps 1 0 = 0 0 1 1 2 2 3 3 4 5 6 7");
        sentence("2 PLACES: the same, but entries of other places may pass one another;",
                MESSAGE, "outcomes 1 = 3", "outcomes 2 = 4", "steps 2 2 = 0 0 9 1 1 8",
                "new", ROUND, "allows 2 85 = 1", "steps 2 0 = 0 0 1 1 2 2 3 3 8 13 18 23");
        also("one place's entries keep their order", "program 0001 0002 0003 1100 1101", "outcomes 0 = 10", "outcomes 1 = 10",
                "outcomes 2 = 10", "outcomes 3 = 10", "differs any any = -1");
        sentence("3 PAIRS: threads 0 and 1 have one buffer, 2 and 3 another one.",
                WITNESSES, "allows 3 " + outcome("r10=1 r30=1 p0=1 p1=1") + " = 1", "differs 0 3 = " + outcome("r10=1 r30=1 p0=1 p1=1"),
                "new", "program 0001 1101", "steps 3 1 = 0 1 4", "new", "program 2001 3101", "steps 3 1 = 2 3 5",
                "new", "program 1001 2101", "steps 3 1 = 1 4 2");
        sentence("A buffer has up to 3 entries (a place and a number), the oldest first.",
                "program 1001 1012 1023 1031", "steps 1 0 = 1 1 1 5 1 5 5 5", "steps 2 0 = 1 1 1 12 1 13 14 15", "steps 3 0 = 1 1 1 4 1 4 4 4",
                "cuts 1 = 5", "cut 1 1 = 64", "cut 1 2 = 96", "cut 1 3 = 108", "cut 1 4 = 109");
    }

    private static void stepsOfThreads() {
        sentence("STEPS, numbered: t (0 .. 3): thread t does its next action:",
                "program 3200 1200 3200 0200 2200 1200", "states any = 36", "steps any 0 = 0 1 1 2 3 3",
                "new", "program 0301 0312 0323", "soonest any 0 1 = 1", "soonest any 1 2 = 2", "soonest any 2 3 = 3");
        sentence("a WRITE comes into its buffer as the newest (PLAIN: to the place at once), if there is room;",
                "program 0001 0002 0100", "outcomes any = 1", "outcome any 0 = " + outcome("r00=2 p0=2"), "soonest 0 0 2 = 2",
                "soonest 1 0 2 = 4", "soonest 2 0 2 = 4", "soonest 3 0 2 = 4");
        also("a pair's entries come as its threads do them", "program 0001 1002", "outcomes 3 = 2", "steps 3 0 = 1 0 4 4",
                "steps 3 1 = 0 1 4 4", "outcomes 1 = 2", "steps 1 0 = 0 1 5 4", "steps 1 1 = 0 1 4 5");
        sentence("a READ gets the number of the newest entry of its buffer for the place, else that of the place;",
                "program 0001 0012 0003 0100 0111", "outcomes any = 1", "outcome any 0 = " + outcome("r00=3 r01=2 p0=3 p1=2"));
        also("others' entries are not read before they have left", "program 0001 1002 1100", "outcomes 1 = 3", "outcomes 2 = 3",
                "allows 1 " + outcome("r10=1 p0=1") + " = 1", "allows 1 " + outcome("r10=1 p0=2") + " = 0",
                "allows 1 " + outcome("r10=2 p0=1") + " = 1", "allows 1 " + outcome("r10=2 p0=2") + " = 1");
        also("a pair's newest is whoever's it is", "program 0001 1002 1100", "outcomes 3 = 3", "allows 3 " + outcome("r10=1 p0=1") + " = 1",
                "allows 3 " + outcome("r10=1 p0=2") + " = 0");
        sentence("a FENCE, if its buffer is empty;",
                "program 0001 0200 0110 1011 1200 1100", "outcomes any = 3", "allows any 80 = 0", "differs any any = -1",
                "new", "program 0001 0200 0011 1110 1101", "outcomes any = 3", "differs 0 2 = -1",
                "new", "program 0001 0110 1011 1200 1100", "allows 1 80 = 1", "allows 2 80 = 1");
        sentence("a WRITE THROUGH: to the place at once, if its buffer is empty.",
                "program 0301 0110 1311 1100", "outcomes any = 3", "allows any 80 = 0", "states any = 13",
                "new", "program 0001 0311 1110 1101", "outcomes any = 3", "differs 0 2 = -1", "steps 2 2 = 0 8 0 1 1");
    }

    private static void stepsOfBuffers() {
        sentence("4 + b (kinds 1, 3; b a thread, or a pair 0, 1): the oldest entry of the buffer goes to its place.",
                "program 0001 1011 2021 3031", "steps 1 0 = 0 1 2 3 4 5 6 7", "steps 3 0 = 0 1 2 3 4 4 5 5",
                "new", "program 2001 3011 2002", "outcomes 3 = 1", "steps 3 0 = 2 2 3 5 5 5", "soonest 3 0 2 = 4", "soonest 1 1 1 = 2");
        sentence("8 + 4 t + p (kind 2): the oldest entry for place p of thread t's buffer goes to it.",
                "program 1031 1022 1013", "steps 2 0 = 1 1 1 13 14 15", "cuts 2 = 8", "soonest 2 1 3 = 4", "soonest 2 2 2 = 3",
                "new", "program 3001 3011 3002", "steps 2 0 = 3 3 3 20 20 21", "cuts 2 = 6", "soonest 2 0 2 = 5");
    }

    private static void ends() {
        sentence("AN END: all threads have done all, all buffers are empty.",
                "program 0001 1002 2200", "outcomes any = 2", "allows any 0 = 0", "outcome any 0 = 64", "outcome any 1 = 128",
                "steps 1 0 = 0 1 2 5 4", "steps 0 0 = 1 0 2");
        sentence("Its OUTCOME is a number to the base four: of digits from the highest on the registers 0 to 3 of thread 0, then of 1, 2,"
                + " 3, then places 0 to 3.",
                "program 0301 0100 0312 0111 1323 1122 2331 2133 3102",
                "allows any " + outcome("r00=1 r01=2 r12=3 r23=1 r32=1 p0=1 p1=2 p2=3 p3=1") + " = 1",
                "outcomes any = 2", "outcome any 1 = 412518253677");
        also("each digit by itself", "program 0301 0100", "outcome any 0 = 274877907008", "new", "program 0301 0101", "outcome any 0 = 68719476800",
                "new", "program 0301 0102", "outcome any 0 = 17179869248", "new", "program 0301 0103", "outcome any 0 = 4294967360",
                "new", "program 1301 1100", "outcome any 0 = 1073741888", "new", "program 2301 2100", "outcome any 0 = 4194368",
                "new", "program 3301 3100", "outcome any 0 = 16448", "new", "program 3331 3133", "outcome any 0 = 257",
                "new", "program 3311", "outcome any 0 = 16", "new", "program 3321", "outcome any 0 = 4");
    }

    private static void states() {
        sentence("STATES are what threads have done, registers, places and buffers are.",
                STORES, "states 0 = 13", "states 1 = 34", "states 2 = 34", "states 3 = 41",
                "new", MESSAGE, "states 0 = 13", "states 1 = 23", "states 2 = 29", "states 3 = 29");
        also("another way to the same is the same", "program 0301 1301", "states any = 4", "new", "program 0100 1100", "states any = 4");
        sentence("EXPLORED: all states that come from the first one by steps; with more than 12000 there is no room.",
                "program 0001 0002 0003 1011 1012 1013", "states 0 = 16", "states 1 = 100", "states 2 = 100",
                "program 2021 2022 2023", "states 0 = 64", "states 1 = 1000", "states 2 = 1000",
                "program 3031 3032 3033", "states 0 = 256", "states 1 = 10000", "states 2 = 10000", "states 3 = unsupported",
                "program 3200", "states 0 = 320", "states 1 = 11000", "states 2 = 11000", "program 3200", "states 0 = 384",
                "states 1 = 12000", "states 2 = 12000", "program 0200", "states 0 = 480", "states 1 = unsupported", "states 2 = unsupported");
        sentence("A ROW OF STEPS to a state: a shortest one, of these the first as words go by steps' numbers.",
                STORES, "steps 0 0 = 0 0 1 1", "steps 0 1 = 1 1 0 0", "steps 0 2 = 0 1 0 1", "steps 1 0 = 0 0 1 1 4 5",
                "steps 1 1 = 0 0 1 4 1 5", "steps 1 2 = 0 1 1 4 5 0", "steps 1 3 = 0 1 4 1 5 0",
                "new", WITNESSES, "steps 3 0 = 1 0 1 3 2 3 4 5");
        also("a row that takes turns", "program 0301 1100 0302 1101 0303 1102", "outcomes any = 20", "steps any 0 = 1 1 1 0 0 0",
                "outcome any 14 = " + outcome("r10=1 r11=2 r12=3 p0=3"), "steps any 14 = 0 1 0 1 0 1", "steps any 19 = 0 0 0 1 1 1");
    }

    private static void cutsAndExceptions() {
        sentence("CUTS: what places 0 to 3 are in any state, as numbers to the base four (place 0 the highest digit).",
                MESSAGE, "cuts 0 = 3", "cut 0 1 = 64", "cut 0 2 = 80", "cuts 2 = 4", "cut 2 1 = 16", "cut 2 2 = 64",
                "new", "program 0303 0012 0021 0030", "cuts 1 = 4", "cut 1 1 = 192", "cut 1 2 = 224", "cut 1 3 = 228",
                "cuts 2 = 5", "cut 2 1 = 192", "cut 2 2 = 196", "cut 2 3 = 224", "cut 2 4 = 228");
        sentence("Of several exceptions the first one told is thrown.",
                VAST, "action 0 0 0 1 = unsupported", "action 0 0 0 4 = illegal", "row 1 -1 -1 = unsupported", "row 4 -1 -1 = illegal",
                "row 0 -1 -1 = out", "soonest 1 4 0 = illegal", "differs 1 4 = illegal", "differs 4 1 = illegal", "outcome 1 -1 = unsupported",
                "cut 1 -1 = unsupported");
        sentence("For all calls with a kind: IllegalArgumentException (first), when there is none; UnsupportedOperationException, when there"
                + " is no room.",
                VAST, "states 0 = 1296", "outcomes no = illegal", "outcome no 0 = illegal", "states no = illegal", "row no 0 0 = illegal",
                "cuts no = illegal", "cut no 0 = illegal", "allows no 0 = illegal", "differs no 0 = illegal", "soonest no 0 0 = illegal",
                "stuck no = illegal");
        for (int kind = 1; kind < 4; kind++) {
            String k = " " + kind;
            also("no room", VAST, "outcomes" + k + " = unsupported", "outcome" + k + " 0 = unsupported", "states" + k + " = unsupported",
                    "row" + k + " 0 0 = unsupported", "cuts" + k + " = unsupported", "cut" + k + " 0 = unsupported",
                    "allows" + k + " 85 = unsupported", "differs" + k + " 0 = unsupported", "differs 0" + k + " = unsupported",
                    "soonest" + k + " 0 0 = unsupported", "stuck" + k + " = unsupported");
        }
        sentence("The constants: `NONE = -1`: Nothing there.",
                "row 0 0 0 = " + OrderMachines.NONE, "differs 0 1 = -1", "soonest 0 0 1 = -1", "count 6 = -1");
    }

    private static void promises1To3() {
        sentence("`OrderMachines()`: No threads' actions.", "count 0 = 0", "count 1 = 0", "states any = 1", "outcomes any = 1", "outcome any 0 = 0");
        sentence("`int action(int thread, int what, int place, int n) throws IllegalArgumentException, UnsupportedOperationException`:"
                + " A thread's action more: how many it has.",
                "action 0 0 0 1 = 1", "action 1 0 0 1 = 1", "action 0 0 0 1 = 2", "action 0 0 0 1 = 3", "action 1 0 0 1 = 2", "count 0 = 5",
                "clear = done", "action 0 0 0 1 = 1");
        sentence("What 0 WRITE (place, number), 1 READ (place, register), 2 FENCE (both 0), 3 WRITE THROUGH (place, number).",
                "action 0 0 1 2 = 1", "count 2 = 1", "action 0 1 1 3 = 2", "count 3 = 1", "action 0 2 0 0 = 3", "count 4 = 1",
                "action 0 3 2 1 = 4", "count 5 = 1", "outcomes any = 1", "outcome any 0 = " + outcome("r03=2 p1=2 p2=1"),
                "steps 0 0 = 0 0 0 0", "steps 1 0 = 0 0 4 0 0");
        sentence("IllegalArgumentException, when that can not be; UnsupportedOperationException, when the thread has five.",
                "action 0 2 0 1 = illegal", "action 0 0 0 4 = illegal", "action 0 0 4 0 = illegal", "action 0 4 0 0 = illegal",
                "action 4 0 0 0 = illegal", "program 0001 0002 0003 0002 0001", "action 0 2 0 0 = unsupported", "action 1 2 0 0 = 1",
                "count 0 = 6");
        sentence("`void clear()`: All actions go.",
                STORES, "states 1 = 34", "clear = done", "count 0 = 0", "states 1 = 1", MESSAGE, "states 1 = 23", "states 2 = 29",
                "clear = done", "clear = done", LOADS, "outcomes any = 3", "count 2 = 2");
    }

    private static void promises4To6() {
        sentence("`int outcomes(int kind) throws IllegalArgumentException, UnsupportedOperationException`: How many outcomes a kind has.",
                STORES, "outcomes 0 = 3", "outcomes 1 = 4", "outcomes 3 = 3", "new", CROSSED, "outcomes 0 = 3", "outcomes 1 = 3",
                "outcomes 2 = 4", "outcomes 3 = 3", "new", "program 0301 1302 2303", "outcomes any = 3",
                "new", "program 0301 1302 2100", "outcomes any = 6");
        sentence("`long outcome(int kind, int k) throws IllegalArgumentException, UnsupportedOperationException, IndexOutOfBoundsException`:"
                + " The k-th outcome of a kind, the least first.",
                "program 0301 1302 2100", "outcome any 0 = " + outcome("p0=1"), "outcome any 1 = " + outcome("p0=2"),
                "outcome any 2 = " + outcome("r20=1 p0=1"), "outcome any 3 = " + outcome("r20=1 p0=2"),
                "outcome any 4 = " + outcome("r20=2 p0=1"), "outcome any 5 = " + outcome("r20=2 p0=2"));
        sentence("IndexOutOfBoundsException, when there is none.",
                "program 0301 1302 2303", "outcome any 2 = 192", "outcome any 3 = out", "outcome any -1 = out");
        sentence("`int states(int kind) throws IllegalArgumentException, UnsupportedOperationException`: How many states a kind has.",
                "program 0001 1011", "states 0 = 4", "states 1 = 9", "states 2 = 9", "states 3 = 10", "program 2021", "states 0 = 8",
                "states 1 = 27", "states 2 = 27", "states 3 = 30");
    }

    private static void promise7() {
        sentence("`int row(int kind, int k, int i) throws IllegalArgumentException, UnsupportedOperationException,"
                + " IndexOutOfBoundsException`: Step i of a row of steps to the end with the k-th outcome; NONE behind its last one.",
                CROSSED, "steps 0 0 = 1 1 0 0", "steps 0 1 = 0 0 1 1", "steps 0 2 = 0 1 0 1", "steps 1 0 = 0 0 1 1 5 5 4 4",
                "steps 2 0 = 0 0 1 1 9 12 8 13", "steps 3 0 = 1 1 0 4 0 4 4 4");
        sentence("IndexOutOfBoundsException, when there is no such outcome, or i is below 0.",
                STORES, "row 0 2 0 = 0", "row 0 3 0 = out", "row 1 3 0 = 0", "row 1 4 0 = out", "row any 0 -1 = out", "row any -1 0 = out");
    }

    private static void promises8To10() {
        sentence("`int cuts(int kind) throws IllegalArgumentException, UnsupportedOperationException`: How many cuts a kind has.",
                "program 0001 0011 0021", "cuts 0 = 4", "cuts 1 = 4", "cuts 2 = 8", "cuts 3 = 4", "program 1001", "cuts 0 = 4", "cuts 2 = 8",
                "program 1031", "cuts 0 = 7", "cuts 1 = 7", "cuts 2 = 16");
        sentence("`int cut(int kind, int k) throws IllegalArgumentException, UnsupportedOperationException, IndexOutOfBoundsException`: The"
                + " k-th cut, the least first.",
                "program 0001 0011 0021", "cut 1 0 = 0", "cut 1 1 = 64", "cut 1 2 = 80", "cut 1 3 = 84", "cut 2 1 = 4", "cut 2 2 = 16",
                "cut 2 3 = 20", "cut 2 4 = 64", "cut 2 5 = 68", "cut 2 6 = 80", "cut 2 7 = 84");
        sentence("IndexOutOfBoundsException, when there is none.", "program 0001 0011 0021", "cut 1 4 = out", "cut 2 8 = out", "cut any -1 = out");
        sentence("`boolean allows(int kind, long outcome) throws IllegalArgumentException, UnsupportedOperationException`: Whether a kind has an"
                + " outcome.",
                STORES, "allows 0 80 = 0", "allows 1 80 = 1", "allows any " + outcome("r00=1 p0=1 p1=1") + " = 1",
                "allows any " + outcome("r10=1 p0=1 p1=1") + " = 1", "allows any " + outcome("r00=1 r10=1 p0=1 p1=1") + " = 1",
                "allows any " + outcome("r00=1 p0=1") + " = 0", "allows any " + outcome("r01=1 p0=1 p1=1") + " = 0");
    }

    private static void promises11To14() {
        sentence("`long differs(int kind, int other) throws IllegalArgumentException, UnsupportedOperationException`: The least outcome that one"
                + " kind has and the other one has not (either way), or NONE.",
                STORES, "differs 0 1 = 80", "differs 1 0 = 80", "differs 1 2 = -1", "differs 2 3 = 80", "differs 0 3 = -1",
                "new", CROSSED, "differs 1 2 = 80", "differs 0 1 = -1", "new", LOADS, "differs any any = -1",
                "new", "program 0301 0000 0010 1011 1100", "differs 0 1 = " + outcome("r10=1 p1=1"), "differs 1 0 = " + outcome("r10=1 p1=1"),
                "new", WITNESSES, "differs 3 1 = " + outcome("r10=1 r30=1 p0=1 p1=1"), "differs 1 2 = -1");
        sentence("`int soonest(int kind, int p, int v) throws IllegalArgumentException, UnsupportedOperationException`: How many steps the row to"
                + " a place's number needs at least: the fewest steps after which place p is v in a state; NONE when it never is.",
                "program 0001 0002 1200 1003", "soonest 0 0 1 = 1", "soonest 0 0 2 = 2", "soonest 0 0 3 = 2", "soonest 1 0 2 = 4",
                "soonest 1 0 3 = 3", "soonest 3 0 3 = 3", "soonest any 1 1 = -1", "soonest any 0 0 = 0");
        sentence("IllegalArgumentException, also when there is no such place or number.",
                STORES, "soonest any 4 0 = illegal", "soonest any 0 4 = illegal", "soonest any -1 0 = illegal", "soonest any 0 -1 = illegal");
        sentence("`int stuck(int kind) throws IllegalArgumentException, UnsupportedOperationException`: States without any step that are no"
                + " ends.",
                STORES, "stuck any = 0", "new", CROSSED, "stuck any = 0", "new", WITNESSES, "stuck any = 0", "new", ROUND, "stuck any = 0",
                "new", "program 0001 0200 1311 1002 1200", "stuck any = 0");
        sentence("`int count(int what)`: Actions (0), threads with some (1), writes (2), reads (3), fences (4), writes through (5).",
                "program 0001 0110 0200 2001 2001 2001 3301 3302 3200 3130", "count 0 = 10", "count 1 = 3", "count 2 = 4", "count 3 = 2",
                "count 4 = 2", "count 5 = 2");
        sentence("NONE for another what.", ALL_SORTS, "count 6 = -1", "count -1 = -1");
    }

    private static void notPromised() {
        // What is free has nothing that could fail.
        sentence("How the state is held inside the object is free, as are the speed of each call, the text of toString and the behaviour of"
                + " equals and hashCode. Use of one object from several threads at once is not promised to be safe.");
        sentence("Nothing is promised beyond the answers and state changes described above, and nothing about an object after its 512th call.",
                STORES, "states 1 = 34", "outcome 1 0 = 80", "row 1 0 5 = 5", "cut 1 3 = 80", "differs 0 1 = 80", "soonest 1 0 1 = 2",
                "states 4 = illegal", "row 1 9 0 = out", "action 0 2 1 0 = illegal", "count 0 = 4", "states 1 = 34", "outcome 1 0 = 80", "row 1 0 5 = 5",
                "cut 1 3 = 80", "differs 0 1 = 80", "soonest 1 0 1 = 2", "action 0 2 0 0 = 3");
    }

    /** All of the document but its headings and the face, which FaceTest has. */
    private static void nothingLeftOut() throws IOException {
        if (!Files.exists(DOCUMENT)) {
            return;
        }
        StringBuilder document = new StringBuilder();
        boolean inFace = false;
        for (String line : Files.readAllLines(DOCUMENT)) {
            if (line.startsWith("```")) {
                inFace = !inFace;
            } else if (!inFace && !line.startsWith("#")) {
                document.append(line).append(' ');
            }
        }
        says.same("the document's sentences are all here", words(document), words(read));
    }

    private static String words(StringBuilder text) {
        return text.toString().trim().replaceAll("\\s+", " ");
    }
}
