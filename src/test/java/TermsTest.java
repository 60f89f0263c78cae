/** The sentences of the document's Terms that name a boundary case, each with a test of its own. */
public final class TermsTest {
    private static final Sentences terms = new Sentences("TermsTest");

    public static void main(String[] args) {
        threadsAndActions();
        writesOfNumbersToPlaces(0, "a WRITE of a number 0 .. 3 to a place 0 .. 3");
        writesOfNumbersToPlaces(3, "a WRITE THROUGH of a number 0 .. 3 to a place 0 .. 3");
        readsIntoRegisters();
        zeroAtFirst();
        kinds();
        buffersOfThreads();
        placesPass();
        pairsShare();
        threeEntries();
        oldestFirst();
        writesWait();
        readsOfTheNewest();
        readsOfThePlace();
        fencesWait();
        writesThroughWait();
        numbersOfSteps();
        oldestForThePlace();
        ends();
        outcomesDigits();
        statesOfWhat();
        room();
        rowsOfSteps();
        cuts();
        exceptionsInOrder();
        noneIsMinusOne();
        fiveHundredAndTwelveCalls();
        terms.end();
    }

    private static void threadsAndActions() {
        terms.holds("up to 4 THREADS",
                "action any 2 0 0 = 1", "count 1 = 4",
                "action no 2 0 0 = illegal", "action no 0 0 1 = illegal", "action no 1 0 0 = illegal",
                "action no 3 0 1 = illegal",
                "count 1 = 4", "count 0 = 4", "states any = 16", "steps any 0 = 0 1 2 3");
        terms.holds("each with up to 5 ACTIONS",
                "action any 2 0 0 = 1", "action any 2 0 0 = 2", "action any 2 0 0 = 3", "action any 2 0 0 = 4",
                "action any 2 0 0 = 5",
                "action any 2 0 0 = unsupported", "count 0 = 20", "count 1 = 4", "states any = 1296",
                "steps any 0 = 0 0 0 0 0 1 1 1 1 1 2 2 2 2 2 3 3 3 3 3");
        terms.holds("each with up to 5 ACTIONS: a full thread leaves the others their five",
                "program 2001 2001 2001 2001 2001", "action 2 0 0 1 = unsupported",
                "action 1 0 0 1 = 1", "action 3 0 0 1 = 1", "action 2 0 0 1 = unsupported", "count 0 = 7");
    }

    private static void writesOfNumbersToPlaces(int what, String sentence) {
        for (int place = 0; place < 4; place++) {
            for (int number = 0; number < 4; number++) {
                for (int thread = 0; thread < 4; thread++) {
                    String action = thread + "" + what + "" + place + "" + number;
                    terms.holds(sentence + ": " + action, "program " + action,
                            "outcomes any = 1", "outcome any 0 = " + Programs.outcome(Programs.place(place), number));
                }
            }
        }
        terms.holds(sentence + ": no other place", "action any " + what + " no any = illegal", "count 0 = 0", "states any = 1");
        terms.holds(sentence + ": no other number", "action any " + what + " any no = illegal", "count 0 = 0", "states any = 1");
    }

    private static void readsIntoRegisters() {
        String sentence = "a READ of a place into the thread's register 0 .. 3";
        for (int thread = 0; thread < 4; thread++) {
            for (int place = 0; place < 4; place++) {
                for (int register = 0; register < 4; register++) {
                    String program = thread + "3" + place + "3 " + thread + "1" + place + register;
                    long outcome = Programs.outcome(Programs.register(thread, register), 3, Programs.place(place), 3);
                    terms.holds(sentence + ": " + program, "program " + program, "outcomes any = 1",
                            "outcome any 0 = " + outcome);
                }
            }
        }
        terms.holds(sentence + ": no other place", "action any 1 no any = illegal", "count 0 = 0", "states any = 1");
        terms.holds(sentence + ": no other register", "action any 1 any no = illegal", "count 0 = 0", "states any = 1");
    }

    private static void zeroAtFirst() {
        terms.holds("Places and registers are 0 at first",
                "outcome any 0 = 0", "cut any 0 = 0", "soonest any any 0 = 0",
                "program 0100 0111 0122 0133 3100 3111 3122 3133",
                "outcomes any = 1", "outcome any 0 = 0", "cuts any = 1", "cut any 0 = 0", "soonest any any 0 = 0");
    }

    private static void kinds() {
        terms.holds("0 PLAIN; 1 ROWS; 2 PLACES; 3 PAIRS: four kinds, and each its own",
                "program 0001 0011 1021", "states 0 = 6", "states 1 = 18", "states 2 = 21", "states 3 = 22",
                "states no = illegal");
        terms.holds("0 PLAIN: without a buffer",
                "program 0001 0002 0003 0001 0200", "states 0 = 6", "steps 0 0 = 0 0 0 0 0", "cuts 0 = 4");
    }

    private static void buffersOfThreads() {
        terms.holds("1 ROWS: each thread has a BUFFER: all four may be full at once",
                "program 0001 0001 0001 1011 1011 1011 2021 2021 2021 3031 3031 3031", "states 1 = 10000",
                "steps 1 0 = 0 0 0 1 1 1 2 2 2 3 3 3 4 4 4 5 5 5 6 6 6 7 7 7");
        terms.holds("2 PLACES: the same: all four may be full at once",
                "program 0001 0001 0001 1011 1011 1011 2021 2021 2021 3031 3031 3031", "states 2 = 10000",
                "steps 2 0 = 0 0 0 1 1 1 2 2 2 3 3 3 8 8 8 13 13 13 18 18 18 23 23 23");
    }

    private static void placesPass() {
        String sentence = "2 PLACES: entries of other places may pass one another";
        for (int first = 0; first < 4; first++) {
            for (int second = 0; second < 4; second++) {
                String program = "program 20" + first + "1 20" + second + "2";
                if (first == second) {
                    terms.holds(sentence + ", of one place not: " + first, program, "outcomes any = 1",
                            "outcome 2 0 = " + Programs.outcome(Programs.place(first), 2),
                            "soonest 2 " + first + " 1 = 2", "soonest 2 " + first + " 2 = 4", "cuts 2 = 3");
                } else {
                    terms.holds(sentence + ": " + second + " passes " + first, program, "cuts 2 = 4", "cuts 1 = 3", "cuts 3 = 3",
                            "soonest 2 " + second + " 2 = 3", "soonest 1 " + second + " 2 = 4", "soonest 3 " + second + " 2 = 4");
                }
            }
        }
        terms.holds(sentence + ": the newest of three passes two",
                "program 0001 0011 0021", "soonest 2 2 1 = 4", "soonest 1 2 1 = 6", "cuts 2 = 8", "cuts 1 = 4");
        terms.holds(sentence + ": what is passed keeps its order",
                "program 0001 0011 0002", "outcomes 2 = 1", "outcome 2 0 = 144", "soonest 2 0 2 = 5", "soonest 2 1 1 = 3");
    }

    private static void pairsShare() {
        String sentence = "threads 0 and 1 have one buffer, 2 and 3 another one";
        for (int one = 0; one < 4; one++) {
            for (int other = 0; other < 4; other++) {
                if (one == other) {
                    continue;
                }
                boolean paired = one / 2 == other / 2;
                String told = ": " + one + " and " + other;
                // In one buffer equal entries are one, whoever wrote them.
                terms.holds(sentence + told, "program " + one + "001 " + other + "001",
                        "states 3 = " + (paired ? 8 : 9), "states 1 = 9", "states 2 = 9");
                // The other one reads 1 before it is drained, or only then.
                terms.holds(sentence + told + ", reads", "program " + one + "001 " + other + "100",
                        "steps 3 1 = " + (paired ? one + " " + other + " " + (4 + one / 2) : one + " " + (4 + one / 2) + " " + other),
                        "steps 1 1 = " + one + " " + (4 + one) + " " + other);
                // Three entries of the one leave the other one room, or none.
                terms.holds(sentence + told + ", room", "program " + one + "001 " + one + "001 " + one + "001 " + other + "011",
                        "states 3 = " + (paired ? 36 : 30), "states 1 = 30");
            }
        }
        terms.holds(sentence + ": both may be full at once",
                "program 0001 0001 1001 2011 3011 3011", "steps 3 0 = 0 0 1 2 3 3 4 4 4 5 5 5");
    }

    private static void threeEntries() {
        String sentence = "A buffer has up to 3 entries";
        terms.holds(sentence + ": one", "program 0001", "states 0 = 2", "states 1 = 3", "states 2 = 3", "states 3 = 3");
        terms.holds(sentence + ": two", "program 0001 0001", "states 0 = 3", "states 1 = 6", "states 2 = 6", "states 3 = 6");
        terms.holds(sentence + ": three", "program 0001 0001 0001", "states 0 = 4", "states 1 = 10", "states 2 = 10",
                "states 3 = 10",
                "steps 1 0 = 0 0 0 4 4 4", "steps 2 0 = 0 0 0 8 8 8", "steps 3 0 = 0 0 0 4 4 4");
        terms.holds(sentence + ": not four", "program 0001 0001 0001 0001", "states 1 = 14", "states 2 = 14", "states 3 = 14",
                "steps 0 0 = 0 0 0 0", "steps 1 0 = 0 0 0 4 0 4 4 4", "steps 2 0 = 0 0 0 8 0 8 8 8",
                "steps 3 0 = 0 0 0 4 0 4 4 4");
        terms.holds(sentence + ": not five", "program 3001 3001 3001 3001 3001", "states 1 = 18", "states 2 = 18",
                "states 3 = 18",
                "steps 1 0 = 3 3 3 7 3 7 3 7 7 7", "steps 2 0 = 3 3 3 20 3 20 3 20 20 20", "steps 3 0 = 3 3 3 5 3 5 3 5 5 5");
        terms.holds(sentence + ": a thread's three are for all places", "program 1001 1011 1021 1031",
                "steps 2 0 = 1 1 1 12 1 13 14 15", "states 2 = 29", "soonest 2 3 1 = 6", "soonest 1 3 1 = 8");
        terms.holds(sentence + ": a pair's three are for both threads", "program 2001 2001 3001 3001",
                "steps 3 0 = 2 2 3 5 3 5 5 5", "steps 1 0 = 2 2 3 3 6 6 7 7", "states 3 = 26", "states 1 = 36");
    }

    private static void oldestFirst() {
        terms.holds("A buffer has up to 3 entries (a place and a number), the oldest first",
                "program 0001 0012 0023", "cuts 1 = 4", "cut 1 0 = 0", "cut 1 1 = 64", "cut 1 2 = 96", "cut 1 3 = 108",
                "soonest 1 0 1 = 2", "soonest 1 1 2 = 4", "soonest 1 2 3 = 6",
                "cuts 3 = 4", "cut 3 1 = 64", "cut 3 2 = 96", "cut 3 3 = 108",
                "new", "program 3021 3012 3003", "cuts 1 = 4", "cut 1 1 = 4", "cut 1 2 = 36", "cut 1 3 = 228",
                "cuts 3 = 4", "cut 3 1 = 4", "cut 3 2 = 36", "cut 3 3 = 228");
    }

    private static void writesWait() {
        terms.holds("a WRITE comes into its buffer as the newest (PLAIN: to the place at once)",
                "program 0001", "soonest 0 0 1 = 1", "soonest 1 0 1 = 2", "soonest 2 0 1 = 2", "soonest 3 0 1 = 2",
                "new", "program 0001 0002", "outcomes any = 1", "outcome any 0 = 128");
        terms.holds("a WRITE comes into its buffer, if there is room: with two entries it does",
                "program 0001 0011 0021 0200", "steps 1 0 = 0 0 0 4 4 4 0");
        terms.holds("a WRITE comes into its buffer, if there is room: with three it waits",
                "program 0001 0011 0021 0032", "soonest 0 3 2 = 4", "soonest 1 3 2 = 8", "soonest 2 3 2 = 6", "soonest 3 3 2 = 8",
                "steps 1 0 = 0 0 0 4 0 4 4 4", "steps 3 0 = 0 0 0 4 0 4 4 4");
        terms.holds("a WRITE comes into its buffer, if there is room: others' entries take none of it",
                "program 0001 0001 0001 1001 2001 3001", "steps 1 0 = 0 0 0 1 2 3 4 4 4 5 6 7",
                "steps 3 0 = 0 0 0 2 3 4 1 4 4 4 5 5");
    }

    private static void readsOfTheNewest() {
        String sentence = "a READ gets the number of the newest entry of its buffer for the place";
        readAlways(sentence + ": of one", "0003 0100", 3);
        readAlways(sentence + ": of two", "0001 0002 0100", 2);
        readAlways(sentence + ": of three", "0001 0002 0003 0100", 3);
        readAlways(sentence + ": of four, one of them gone", "0001 0002 0003 0001 0100", 1);
        readAlways(sentence + ": the newest of all is of another place", "0001 0002 0013 0100", 2);
        readAlways(sentence + ": only the oldest is of the place", "0001 0012 0023 0100", 1);
        readAlways(sentence + ": the number 0 is an entry too", "0303 0000 0100", 0);
        readAlways(sentence + ": the newest is 0", "0003 0002 0000 0100", 0);
        terms.holds(sentence + ": a pair's buffer is both threads'",
                "program 0001 1100", "steps 3 0 = 1 0 4", "steps 3 1 = 0 1 4", "states 3 = 8",
                "new", "program 2001 3100", "steps 3 0 = 3 2 5", "steps 3 1 = 2 3 5", "states 3 = 8");
    }

    private static void readAlways(String told, String program, int number) {
        long read = Programs.outcome(Programs.register(0, 0), number);
        terms.holds(told, "program " + program, "outcomes any = 1");
        OrderMachines x = Programs.made(program);
        for (int kind = 0; kind < 4; kind++) {
            terms.holds(told, "program " + program, "outcome " + kind + " 0 = " + (read + x.outcome(kind, 0) % 256));
        }
    }

    private static void readsOfThePlace() {
        String sentence = "a READ gets .. else that of the place";
        readAlways(sentence + ": an empty buffer", "0302 0100", 2);
        readAlways(sentence + ": an entry of another place", "0302 0011 0100", 2);
        readAlways(sentence + ": three entries of other places", "0302 0011 0021 0031 0100", 2);
        readAlways(sentence + ": nobody wrote there", "0011 0021 0031 0100", 0);
        terms.holds(sentence + ": another thread's entry is not its own",
                "program 0001 1100", "steps 1 0 = 0 1 4", "steps 2 0 = 0 1 8", "steps 1 1 = 0 4 1", "steps 2 1 = 0 8 1",
                "states 1 = 7",
                "new", "program 1001 2100", "steps 3 0 = 1 2 4", "steps 3 1 = 1 4 2", "states 3 = 7");
        terms.holds(sentence + ": PLAIN has that alone",
                "program 0001 1100", "steps 0 0 = 1 0", "steps 0 1 = 0 1", "states 0 = 5");
    }

    private static void fencesWait() {
        String sentence = "a FENCE, if its buffer is empty";
        terms.holds(sentence + ": it is", "program 0200", "states any = 2", "steps any 0 = 0", "outcome any 0 = 0");
        terms.holds(sentence + ": PLAIN has none", "program 0001 0002 0200", "steps 0 0 = 0 0 0", "states 0 = 4");
        terms.holds(sentence + ": one entry", "program 0001 0200", "states 0 = 3", "states 1 = 4", "states 2 = 4", "states 3 = 4",
                "steps 1 0 = 0 4 0", "steps 2 0 = 0 8 0", "steps 3 0 = 0 4 0");
        terms.holds(sentence + ": two entries", "program 0001 0031 0200",
                "steps 1 0 = 0 0 4 4 0", "steps 2 0 = 0 0 8 11 0", "steps 3 0 = 0 0 4 4 0");
        terms.holds(sentence + ": three entries", "program 0001 0001 0031 0200",
                "steps 1 0 = 0 0 0 4 4 4 0", "steps 2 0 = 0 0 0 8 8 11 0", "steps 3 0 = 0 0 0 4 4 4 0");
        terms.holds(sentence + ": an entry of the number 0 at place 0", "program 0000 0200",
                "steps 1 0 = 0 4 0", "steps 2 0 = 0 8 0", "steps 3 0 = 0 4 0", "states 1 = 4");
        terms.holds(sentence + ": other threads' entries are not in it", "program 0001 1200",
                "steps 1 0 = 0 1 4", "steps 2 0 = 0 1 8", "states 1 = 6", "states 2 = 6");
        terms.holds(sentence + ": the other pair's are not in it", "program 1001 2200", "steps 3 0 = 1 2 4", "states 3 = 6");
        terms.holds(sentence + ": the pair's are in it", "program 0001 1200", "steps 3 0 = 0 4 1",
                "new", "program 3001 2200", "steps 3 0 = 2 3 5");
        terms.holds(sentence + ": it changes nothing else", "program 0301 0200 0100 0200", "outcomes any = 1",
                "outcome any 0 = " + Programs.outcome(0, 1, Programs.place(0), 1), "cuts any = 2");
    }

    private static void writesThroughWait() {
        String sentence = "a WRITE THROUGH: to the place at once, if its buffer is empty";
        terms.holds(sentence + ": it is", "program 0302", "states any = 2", "steps any 0 = 0", "soonest any 0 2 = 1",
                "outcome any 0 = 128");
        terms.holds(sentence + ": five of them", "program 3301 3302 3303 3301 3302", "states any = 6", "steps any 0 = 3 3 3 3 3",
                "soonest any 0 3 = 3");
        terms.holds(sentence + ": PLAIN has none", "program 0001 0002 0303", "steps 0 0 = 0 0 0", "soonest 0 0 3 = 3");
        terms.holds(sentence + ": one entry", "program 0001 0312", "states 0 = 3", "states 1 = 4", "states 2 = 4", "states 3 = 4",
                "steps 1 0 = 0 4 0", "steps 2 0 = 0 8 0", "steps 3 0 = 0 4 0", "soonest 2 1 2 = 3");
        terms.holds(sentence + ": two entries", "program 0001 0031 0312",
                "steps 1 0 = 0 0 4 4 0", "steps 2 0 = 0 0 8 11 0", "steps 3 0 = 0 0 4 4 0", "soonest 2 1 2 = 5");
        terms.holds(sentence + ": three entries", "program 0001 0001 0031 0312",
                "steps 1 0 = 0 0 0 4 4 4 0", "steps 2 0 = 0 0 0 8 8 11 0", "steps 3 0 = 0 0 0 4 4 4 0", "soonest 2 1 2 = 7");
        terms.holds(sentence + ": an entry of the number 0 at place 0", "program 0000 0312",
                "steps 1 0 = 0 4 0", "steps 2 0 = 0 8 0", "steps 3 0 = 0 4 0");
        terms.holds(sentence + ": other threads' entries are not in it", "program 0001 1312",
                "steps 1 0 = 0 1 4", "steps 2 0 = 0 1 8", "states 1 = 6", "states 2 = 6");
        terms.holds(sentence + ": the other pair's are not in it", "program 1001 2312", "steps 3 0 = 1 2 4", "states 3 = 6");
        terms.holds(sentence + ": the pair's are in it", "program 0001 1312", "steps 3 0 = 0 4 1",
                "new", "program 3001 2312", "steps 3 0 = 2 3 5");
    }

    private static void numbersOfSteps() {
        for (int thread = 0; thread < 4; thread++) {
            for (int place = 0; place < 4; place++) {
                String program = "program " + thread + "0" + place + "1";
                terms.holds("t (0 .. 3): thread t does its next action: " + thread, program, "row any 0 0 = " + thread, "row 0 0 1 = -1");
                terms.holds("4 + b (kinds 1, 3; b a thread, or a pair 0, 1): " + thread, program,
                        "steps 1 0 = " + thread + " " + (4 + thread), "steps 3 0 = " + thread + " " + (4 + thread / 2));
                terms.holds("8 + 4 t + p (kind 2): " + thread + ", " + place, program,
                        "steps 2 0 = " + thread + " " + (8 + 4 * thread + place));
            }
        }
    }

    private static void oldestForThePlace() {
        terms.holds("the oldest entry for place p of thread t's buffer goes to it",
                "program 0001 0002", "steps 2 0 = 0 0 8 8", "soonest 2 0 1 = 2", "soonest 2 0 2 = 4",
                "new", "program 0011 0001 0002", "soonest 2 0 1 = 3", "soonest 2 0 2 = 5", "cuts 2 = 6", "cut 2 2 = 64",
                "cut 2 4 = 128",
                "new", "program 0001 0002 0011", "soonest 2 1 1 = 4", "soonest 2 0 2 = 4", "outcome 2 0 = 144", "outcomes 2 = 1");
    }

    private static void ends() {
        String sentence = "AN END: all threads have done all, all buffers are empty";
        terms.holds(sentence + ": at once where there is nothing to do", "outcomes any = 1", "states any = 1",
                "row any 0 0 = -1");
        terms.holds(sentence + ": what is still in a buffer is no end", "program 0001", "outcomes any = 1", "allows any 0 = 0",
                "allows any 64 = 1");
        terms.holds(sentence + ": any one of them", "program 0001 1011 2021 3031", "outcomes any = 1", "outcome any 0 = 85",
                "allows any 84 = 0",
                "allows any 81 = 0", "allows any 69 = 0", "allows any 21 = 0", "stuck any = 0");
        terms.holds(sentence + ": what a thread has not done yet is no end", "program 0301 1311 2321 3331", "outcomes any = 1",
                "outcome any 0 = 85");
    }

    private static void outcomesDigits() {
        String sentence = "Its OUTCOME is a number to the base four";
        terms.holds(sentence + ": the least", "program 0300 1300 2300 3300", "outcomes any = 1", "outcome any 0 = 0");
        String all = "";
        for (int thread = 0; thread < 4; thread++) {
            all += " " + thread + "3" + thread + "3";
            for (int register = 0; register < 4; register++) {
                all += " " + thread + "1" + thread + register;
            }
        }
        terms.holds(sentence + ": the greatest", "program" + all, "outcomes any = 1", "outcome any 0 = 1099511627775",
                "allows any 1099511627775 = 1", "allows any 1099511627776 = 0", "allows any -1 = 0");
        // Thread 0's register 0 is the highest digit, place 3 the lowest one; all others lie between.
        terms.holds(sentence + ", of digits from the highest on", "program 0333 0130", "outcome any 0 = " + (3 * (1L << 38) + 3),
                "new", "program 0333 0133", "outcome any 0 = " + (3 * (1L << 32) + 3),
                "new", "program 1333 1130", "outcome any 0 = " + (3 * (1L << 30) + 3),
                "new", "program 3303 3103", "outcome any 0 = " + (3 * (1L << 8) + 192));
    }

    private static void statesOfWhat() {
        String sentence = "STATES are what threads have done, registers, places and buffers are";
        terms.holds(sentence + ": what threads have done", "program 0200 0200 1200", "states any = 6");
        terms.holds(sentence + ": registers", "program 0100 1301", "states any = 5");
        terms.holds(sentence + ": places", "program 0301 1302", "states any = 5");
        terms.holds(sentence + ": buffers' numbers", "program 0001 1002", "states 0 = 5", "states 1 = 10", "states 3 = 11");
        terms.holds(sentence + ": buffers' order", "program 0001 1011", "states 1 = 9", "states 3 = 10");
    }

    private static void room() {
        for (int kind = 0; kind < 4; kind++) {
            String k = " " + kind;
            terms.holds("with more than 12000 there is no room: 12000, kind" + k, "program " + Programs.FULL[kind],
                    "states" + k + " = 12000", "stuck" + k + " = 0", "differs" + k + k + " = -1", "soonest" + k + " 0 0 = 0",
                    "cut" + k + " 0 = 0", "cut" + k + " 256 = out", "outcome" + k + " max = out", "row" + k + " 0 max = -1",
                    "allows" + k + " -1 = 0", "soonest" + k + " 0 4 = illegal");
            terms.holds("with more than 12000 there is no room: 12001, kind" + k, "program " + Programs.OVER[kind],
                    "outcomes" + k + " = unsupported", "outcome" + k + " 0 = unsupported", "states" + k + " = unsupported",
                    "row" + k + " 0 0 = unsupported", "cuts" + k + " = unsupported", "cut" + k + " 0 = unsupported",
                    "allows" + k + " 0 = unsupported", "differs" + k + k + " = unsupported", "soonest" + k + " 0 0 = unsupported",
                    "stuck" + k + " = unsupported", "states" + k + " = unsupported");
            // What an earlier way through left in the object's rows may not pass for a state that is found.
            terms.holds("with more than 12000 there is no room: 12000 once more, kind" + k, "program " + Programs.FULL[kind],
                    "states" + k + " = 12000", "clear = done", "program " + Programs.FULL[kind], "states" + k + " = 12000",
                    "clear = done", "program 0001 0001 0001 1011 1011 1011 2021 2021 2021", "states 1 = 1000", "states 2 = 1000",
                    "clear = done", "program 0001 0001 0001 1011 1011 1011 2021 2021 2021", "states 2 = 1000", "states 1 = 1000",
                    "clear = done", "program " + Programs.FULL[kind], "states" + k + " = 12000");
            terms.holds("with more than 12000 there is no room: room again, kind" + k, "program " + Programs.OVER[kind],
                    "states" + k + " = unsupported", "clear = done", "program " + Programs.FULL[kind], "states" + k + " = 12000",
                    "clear = done", "program " + Programs.OVER[kind], "states" + k + " = unsupported", "clear = done",
                    "states" + k + " = 1");
        }
    }

    private static void rowsOfSteps() {
        String sentence = "a shortest one, of these the first as words go by steps' numbers";
        terms.holds(sentence + ": the lowest thread first", "program 3200 2200 1200 0200", "steps any 0 = 0 1 2 3");
        terms.holds(sentence + ": threads before drains", "program 0001 3001", "steps 1 0 = 0 3 4 7", "steps 2 0 = 0 3 8 20",
                "steps 3 0 = 0 3 4 5");
        terms.holds(sentence + ": 9 before 10, as numbers go", "program 0011 0021", "steps 2 0 = 0 0 9 10");
        terms.holds(sentence + ": 9 before 10, though 10 is the older one's", "program 0021 0011", "steps 2 0 = 0 0 9 10",
                "steps 1 0 = 0 0 4 4");
        terms.holds(sentence + ": 8 before 11, 23 last", "program 3031 0031 0001", "steps 2 0 = 0 0 3 8 11 23");
        terms.holds(sentence + ": no lower word leads there", "program 0100 1301", "steps any 0 = 0 1", "steps any 1 = 1 0");
        terms.holds(sentence + ": the lowest step is put off no longer than is due", "program 0200 0100 1301",
                "steps any 1 = 0 1 0");
    }

    private static void cuts() {
        String sentence = "CUTS: what places 0 to 3 are in any state";
        terms.holds(sentence + ": the first one's too", "cuts any = 1", "cut any 0 = 0", "program 0301", "cuts any = 2",
                "cut any 0 = 0");
        terms.holds(sentence + ": one between", "program 0303 0300", "cuts any = 2", "cut any 1 = 192", "outcome any 0 = 0");
        terms.holds(sentence + ": all there are",
                "program 0001 0002 0003 1011 1012 1013 2021 2022 2023 3031 3032 3033",
                "cuts 0 = 256", "cut 0 0 = 0", "cut 0 1 = 1", "cut 0 128 = 128", "cut 0 255 = 255", "cut 0 256 = out",
                "cuts 1 = 256", "cut 1 0 = 0", "cut 1 254 = 254", "cut 1 255 = 255", "cut 1 256 = out");
        terms.holds("as numbers to the base four (place 0 the highest digit)", "program 0301", "cut any 1 = 64", "new",
                "program 0311", "cut any 1 = 16",
                "new", "program 0321", "cut any 1 = 4", "new", "program 0331", "cut any 1 = 1", "new", "program 0303",
                "cut any 1 = 192",
                "new", "program 0303 0313 0323 0333", "cut any 4 = 255");
    }

    private static void exceptionsInOrder() {
        String sentence = "Of several exceptions the first one told is thrown";
        terms.holds(sentence + ": action", "program 0200 0200 0200 0200 0200", "action 0 2 0 0 = unsupported",
                "action 0 no 0 0 = illegal", "action 0 0 no 0 = illegal", "action 0 0 0 no = illegal",
                "action 0 2 fences-not 0 = illegal",
                "action 0 2 0 fences-not = illegal", "action no 2 0 0 = illegal", "action 0 2 0 0 = unsupported", "count 0 = 5");
        for (int kind = 0; kind < 4; kind++) {
            String k = " " + kind;
            terms.holds(sentence + ": with no room, kind" + k, "program " + Programs.OVER[kind],
                    "outcome" + k + " below = unsupported", "outcome" + k + " max = unsupported",
                    "cut" + k + " below = unsupported",
                    "cut" + k + " max = unsupported", "row" + k + " below 0 = unsupported", "row" + k + " max 0 = unsupported",
                    "row" + k + " 0 below = unsupported", "row" + k + " below below = unsupported",
                    "soonest" + k + " no 0 = illegal", "soonest" + k + " 0 no = illegal", "soonest" + k + " no no = illegal",
                    "differs" + k + " no = illegal", "differs no" + k + " = illegal");
        }
        String first = "IllegalArgumentException (first), when there is none; UnsupportedOperationException, when there is no room";
        for (String program : new String[] {"0200", Programs.OVER[0]}) {
            terms.holds(first, "program " + program, "outcomes no = illegal", "outcome no 0 = illegal",
                    "outcome no below = illegal",
                    "outcome no max = illegal", "states no = illegal", "row no 0 0 = illegal", "row no below 0 = illegal",
                    "row no 0 below = illegal",
                    "row no max min = illegal", "cuts no = illegal", "cut no 0 = illegal", "cut no below = illegal",
                    "cut no max = illegal",
                    "allows no 0 = illegal", "allows no least-long = illegal", "allows no greatest-long = illegal",
                    "stuck no = illegal",
                    "new", "program " + program, "differs no any = illegal", "differs any no = illegal",
                    "differs no no = illegal",
                    "soonest no 0 0 = illegal", "soonest no no no = illegal");
        }
    }

    private static void noneIsMinusOne() {
        terms.holds("NONE = -1: Nothing there", "row any 0 0 = " + OrderMachines.NONE, "row any 0 0 = -1",
                "count 6 = " + OrderMachines.NONE, "count 6 = -1");
    }

    /** The class holds what it is asked to the last of its calls, also when all of them change it. */
    private static void fiveHundredAndTwelveCalls() {
        String sentence = "An object is used for at most 512 calls after it has been made";
        String[] lines = new String[512];
        for (int call = 0; call < 512; call += 8) {
            lines[call] = "action 0 0 0 1 = 1";
            lines[call + 1] = "action 1 1 0 0 = 1";
            lines[call + 2] = "states 1 = 7";
            lines[call + 3] = "states 3 = 8";
            lines[call + 4] = "row 1 1 1 = 4";
            lines[call + 5] = "action 4 0 0 0 = illegal";
            lines[call + 6] = "clear = done";
            lines[call + 7] = "states 1 = 1";
        }
        terms.holds(sentence, lines);
    }
}
