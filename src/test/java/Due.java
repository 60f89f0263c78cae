/** Counts the answers that are not as due, and tells each of them. */
final class Due {
    interface Call {
        long go();
    }

    private final String name;
    private int asked = 0;
    private int wrong = 0;

    Due(String name) {
        this.name = name;
    }

    void answer(String call, long want, Call made) {
        asked++;
        tell(call, Long.toString(want), told(made));
    }

    /** Exactly this class: the machine's own kinds of IndexOutOfBoundsException are not as due. */
    void thrown(String call, Class<? extends RuntimeException> want, Call made) {
        asked++;
        tell(call, "throws." + want.getSimpleName(), told(made));
    }

    /** The same answer, or an exception of the same class. */
    void same(String call, Call want, Call made) {
        asked++;
        tell(call, told(want), told(made));
    }

    private static String told(Call made) {
        try {
            return Long.toString(made.go());
        } catch (RuntimeException e) {
            return "throws." + e.getClass().getSimpleName();
        }
    }

    void that(String what, boolean holds) {
        asked++;
        if (!holds) {
            wrong++;
            System.out.println(name + ": does not hold: " + what);
        }
    }

    private void tell(String call, String want, String got) {
        if (!want.equals(got)) {
            wrong++;
            System.out.println(name + ": " + call + " answered " + got + ", due is " + want);
        }
    }

    void end() {
        System.out.println(name + ": " + asked + " asked, " + wrong + " wrong");
        if (wrong != 0 || asked == 0) {
            System.exit(1);
        }
    }
}
