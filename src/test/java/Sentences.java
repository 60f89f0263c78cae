/**
 * Sentences of the document, each with a run of calls of its own that would answer otherwise if
 * the sentence did not hold. A run is written in lines:
 *
 * <pre>
 *   new                  another object (each sentence begins with one)
 *   program 0001 0110    actions, each as its digits thread, what, place, n
 *   row 1 0 2 = 4        a call and the answer that is due; or illegal, unsupported, out, done
 *   steps 1 0 = 0 4 0    the whole row of steps: each step, and NONE behind the last one
 * </pre>
 *
 * Some words stand for several arguments, and the call is made with each of them.
 */
final class Sentences {
    private static final int MOST_CALLS = 512;

    private static final long[] ANY = {0, 1, 2, 3};
    /** Too small and too great for 0 .. 3; some with lowest bits that would be right. */
    private static final long[] NO = {-1, -4, 4, 5, 65536, Integer.MIN_VALUE, Integer.MAX_VALUE};
    private static final long[] BELOW = {-1, -2, Integer.MIN_VALUE};
    private static final long[] FENCES_NOT = {1, 2, 3, -1, 4, 65536, Integer.MIN_VALUE, Integer.MAX_VALUE};

    private final Due due;
    private OrderMachines x;
    private int calls;

    Sentences(String name) {
        due = new Due(name);
    }

    void holds(String sentence, String... lines) {
        takeNew();
        for (String line : lines) {
            go(sentence, line);
        }
    }

    void same(String what, String want, String got) {
        due.that(what + ": " + got + " <-> " + want, want.equals(got));
    }

    void end() {
        due.end();
    }

    private void takeNew() {
        x = new OrderMachines();
        calls = 0;
    }

    private void go(String sentence, String line) {
        if (line.equals("new")) {
            takeNew();
            return;
        }
        if (line.startsWith("program ")) {
            String program = line.substring("program ".length());
            calls += program.split(" ").length;
            Programs.add(x, program);
            return;
        }
        String[] sides = line.split(" = ");
        String[] words = sides[0].split(" ");
        if (words[0].equals("steps")) {
            steps(sentence, words, sides[1].split(" "));
        } else {
            callAll(sentence, words, new long[words.length - 1], 0, sides[1]);
        }
        due.that(sentence + ": at most 512 calls of an object", calls <= MOST_CALLS);
    }

    private void steps(String sentence, String[] words, String[] steps) {
        for (int i = 0; i <= steps.length; i++) {
            String[] call = {"row", words[1], words[2], Integer.toString(i)};
            callAll(sentence, call, new long[3], 0, i < steps.length ? steps[i] : "-1");
        }
    }

    private void callAll(String sentence, String[] words, long[] args, int known, String answer) {
        if (known == args.length) {
            callOne(sentence, words[0], args, answer);
            return;
        }
        for (long value : meant(words[known + 1])) {
            args[known] = value;
            callAll(sentence, words, args, known + 1, answer);
        }
    }

    private static long[] meant(String word) {
        switch (word) {
            case "any":
                return ANY;
            case "no":
                return NO;
            case "below":
                return BELOW;
            case "fences-not":
                return FENCES_NOT;
            case "min":
                return new long[] {Integer.MIN_VALUE};
            case "max":
                return new long[] {Integer.MAX_VALUE};
            case "least-long":
                return new long[] {Long.MIN_VALUE};
            case "greatest-long":
                return new long[] {Long.MAX_VALUE};
            default:
                return new long[] {Long.parseLong(word)};
        }
    }

    private void callOne(String sentence, String name, long[] args, String answer) {
        calls++;
        StringBuilder told = new StringBuilder(sentence + ": " + name);
        for (long arg : args) {
            told.append(' ').append(arg);
        }
        Due.Call call = () -> answerOf(name, args);
        switch (answer) {
            case "illegal":
                due.thrown(told.toString(), IllegalArgumentException.class, call);
                break;
            case "unsupported":
                due.thrown(told.toString(), UnsupportedOperationException.class, call);
                break;
            case "out":
                due.thrown(told.toString(), IndexOutOfBoundsException.class, call);
                break;
            case "done":
                due.answer(told.toString(), 0, call);
                break;
            default:
                due.answer(told.toString(), Long.parseLong(answer), call);
        }
    }

    private long answerOf(String name, long[] args) {
        int a = args.length > 0 ? (int) args[0] : 0;
        int b = args.length > 1 ? (int) args[1] : 0;
        int c = args.length > 2 ? (int) args[2] : 0;
        switch (name) {
            case "action":
                return x.action(a, b, c, (int) args[3]);
            case "clear":
                x.clear();
                return 0;
            case "outcomes":
                return x.outcomes(a);
            case "outcome":
                return x.outcome(a, b);
            case "states":
                return x.states(a);
            case "row":
                return x.row(a, b, c);
            case "cuts":
                return x.cuts(a);
            case "cut":
                return x.cut(a, b);
            case "allows":
                return x.allows(a, args[1]) ? 1 : 0;
            case "differs":
                return x.differs(a, b);
            case "soonest":
                return x.soonest(a, b, c);
            case "stuck":
                return x.stuck(a);
            case "count":
                return x.count(a);
            default:
                throw new IllegalStateException("no such call: " + name);
        }
    }
}
