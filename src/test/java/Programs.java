import java.util.ArrayList;
import java.util.List;

/** Programs as texts: an action is its four digits thread, what, place, n. */
final class Programs {
    /** Of each kind a program with exactly 12000 states. */
    static final String[] FULL = {
        "1101 0001 2302 3103 3103 0001 2100 1001 2101 2200 1101 2001 3102 3001 0002",
        "0001 0001 0001 1011 1011 1011 2021 2021 2021 3200 3200 3031 3031 3031",
        "0002 0003 0013 0013 3000 3321 3112 1200 3021 1023 0101 2010 3002",
        "1001 2001 3002 3301 0101 1002 2000 1301 2003 2000 0100 2001",
    };
    /** Of each kind a program with one state more than there is room for. */
    static final String[] OVER = {
        "1001 3003 1003 0103 2101 1001 2002 3003 0200 2102 2200 2003 1003 0100",
        "2002 0110 3001 2012 3000 0113 1011 1300 2002 0311 2101 0001",
        "0030 1000 0113 3012 0021 0031 3123 1012 0003 2032 2200 2200",
        "0001 1102 1001 2102 3003 2302 1000 1100 2001 0002",
    };

    private Programs() {
    }

    static OrderMachines made(String program) {
        OrderMachines x = new OrderMachines();
        add(x, program);
        return x;
    }

    static void add(OrderMachines x, String program) {
        for (String a : program.trim().split(" +")) {
            x.action(a.charAt(0) - '0', a.charAt(1) - '0', a.charAt(2) - '0', a.charAt(3) - '0');
        }
    }

    static List<List<int[]>> threads(String program) {
        List<List<int[]>> threads = new ArrayList<>();
        for (int t = 0; t < 4; t++) {
            threads.add(new ArrayList<>());
        }
        for (String a : program.trim().split(" +")) {
            threads.get(a.charAt(0) - '0').add(new int[] {a.charAt(1) - '0', a.charAt(2) - '0', a.charAt(3) - '0'});
        }
        return threads;
    }

    /** The outcome with these numbers in these digits: {digit, number, digit, number ..}. */
    static long outcome(int... pairs) {
        long outcome = 0;
        for (int i = 0; i < pairs.length; i += 2) {
            long digit = pairs[i + 1];
            for (int n = pairs[i]; n < 19; n++) {
                digit *= 4;
            }
            outcome += digit;
        }
        return outcome;
    }

    static int register(int thread, int register) {
        return 4 * thread + register;
    }

    static int place(int place) {
        return 16 + place;
    }
}
