/** Counts and prints the answers that are not as due. */
final class Check {
    static final Class<IllegalArgumentException> ARGUMENT = IllegalArgumentException.class;
    static final Class<IndexOutOfBoundsException> INDEX = IndexOutOfBoundsException.class;
    static final Class<IllegalStateException> STATE = IllegalStateException.class;

    /** A call whose answer is of interest. */
    interface Asked {
        int answer();
    }

    /** A call without an answer. */
    interface Deed {
        void happen();
    }

    private int made = 0;
    private int wrong = 0;
    private String sentence = "";

    /** A test of its own for one sentence of the document; what it throws fails it and no other. */
    void sentence(String words, Deed test) {
        sentence = words + ": ";
        try {
            test.happen();
        } catch (RuntimeException e) {
            same("the test", "throws " + e, "no exception");
        }
        sentence = "";
    }

    void same(String what, Object got, Object due) {
        made++;
        if (!got.equals(due)) {
            wrong++;
            System.out.println(sentence + what + " answered " + got + ", due is " + due);
        }
    }

    void refused(String what, Class<? extends RuntimeException> due, Deed deed) {
        same(what, outcome(deed), thrown(due));
    }

    /** How outcome() writes an exception of this class. */
    static String thrown(Class<? extends RuntimeException> due) {
        return "throws." + due.getSimpleName();
    }

    /** The answer, or the very class that was thrown. */
    static String outcome(Asked call) {
        try {
            return Integer.toString(call.answer());
        } catch (RuntimeException e) {
            return thrown(e.getClass());
        }
    }

    static String outcome(Deed deed) {
        try {
            deed.happen();
            return "done";
        } catch (RuntimeException e) {
            return thrown(e.getClass());
        }
    }

    void finish() {
        System.out.println(made + " checks, " + wrong + " wrong");
        if (made == 0 || wrong != 0) {
            System.exit(1);
        }
    }
}
