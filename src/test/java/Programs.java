import java.util.ArrayList;
import java.util.List;

/** Programs as texts: an action is its four digits thread, what, place, n. */
final class Programs {
    private Programs() {
    }

    static OrderMachines made(String program) {
        OrderMachines x = new OrderMachines();
        add(x, program);
        return x;
    }

    static void add(OrderMachines x, String program) {
        for (String a : program.trim().split(" +")) {
            x.action(a.charAt(0) - '0', a.charAt(1) - '0', a.charAt(2) - '0', a.charAt(3) - '0');
        }
    }

    static List<List<int[]>> threads(String program) {
        List<List<int[]>> threads = new ArrayList<>();
        for (int t = 0; t < 4; t++) {
            threads.add(new ArrayList<>());
        }
        for (String a : program.trim().split(" +")) {
            threads.get(a.charAt(0) - '0').add(new int[] {a.charAt(1) - '0', a.charAt(2) - '0', a.charAt(3) - '0'});
        }
        return threads;
    }

    /** The outcome with these numbers in these digits: {digit, number, digit, number ..}. */
    static long outcome(int... pairs) {
        long outcome = 0;
        for (int i = 0; i < pairs.length; i += 2) {
            long digit = pairs[i + 1];
            for (int n = pairs[i]; n < 19; n++) {
                digit *= 4;
            }
            outcome += digit;
        }
        return outcome;
    }

    static int register(int thread, int register) {
        return 4 * thread + register;
    }

    static int place(int place) {
        return 16 + place;
    }
}
