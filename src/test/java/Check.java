/** Counts and prints the answers that are not as due. */
final class Check {
    /** A call whose answer is of interest. */
    interface Call {
        int answer();
    }

    /** A call without an answer. */
    interface Deed {
        void happen();
    }

    private int made = 0;
    private int wrong = 0;

    void same(String what, Object got, Object due) {
        made++;
        if (!got.equals(due)) {
            wrong++;
            System.out.println(what + " answered " + got + ", due is " + due);
        }
    }

    void refused(String what, Class<? extends RuntimeException> due, Deed deed) {
        same(what, outcome(() -> {
            deed.happen();
            return 0;
        }), "throws." + due.getSimpleName());
    }

    /** The answer, or the very class that was thrown. */
    static String outcome(Call call) {
        try {
            return Integer.toString(call.answer());
        } catch (RuntimeException e) {
            return "throws." + e.getClass().getSimpleName();
        }
    }

    void finish() {
        System.out.println(made + " checks, " + wrong + " wrong");
        if (made == 0 || wrong != 0) {
            System.exit(1);
        }
    }
}
