/** Counts and prints the calls of a test whose answer is not the one that is due. */
final class Check {
    /** A call that may throw. */
    interface Call {
        long answer();
    }

    private final String test;
    private int wrong = 0;
    private int checked = 0;

    Check(String test) {
        this.test = test;
    }

    void same(String call, long got, long due) {
        checked++;
        if (got != due) {
            wrong++;
            System.out.println(test + ": " + call + " answered " + got + ", due is " + due);
        }
    }

    void same(String call, boolean got, boolean due) {
        same(call, got ? 1 : 0, due ? 1 : 0);
    }

    void same(String call, String got, String due) {
        checked++;
        if (!got.equals(due)) {
            wrong++;
            System.out.println(test + ": " + call + " answered [" + got + "], due is [" + due + "]");
        }
    }

    void illegal(String call, Call made) {
        same(call, outcome(made), "throws.IllegalArgumentException");
    }

    void outOfBounds(String call, Call made) {
        same(call, outcome(made), "throws.IndexOutOfBoundsException");
    }

    /** The exact class counts: a subclass would be another exception than the document's. */
    static String outcome(Call made) {
        try {
            return Long.toString(made.answer());
        } catch (RuntimeException e) {
            return "throws." + e.getClass().getSimpleName();
        }
    }

    void finish() {
        System.out.println(test + ": " + checked + " checked, " + wrong + " wrong");
        if (wrong > 0 || checked == 0) {
            System.exit(1);
        }
    }
}
