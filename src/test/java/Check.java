/** Counts and prints the calls of a test whose answer is not the one that is due. */
final class Check {
    /** A call that may throw. */
    interface Call {
        long answer();
    }

    private final String test;
    private int wrong = 0;
    private int checked = 0;
    private String sentence = "";
    private int checkedBefore = 0;

    Check(String test) {
        this.test = test;
    }

    /** What is checked from here on is about this sentence of the document. */
    void sentence(String words) {
        endSentence();
        sentence = words;
        checkedBefore = checked;
    }

    private void endSentence() {
        if (!sentence.isEmpty() && checked == checkedBefore) {
            report("nothing is checked");
        }
    }

    private void report(String what) {
        wrong++;
        String about = sentence.isEmpty() ? "" : "\"" + sentence + "\": ";
        System.out.println(test + ": " + about + what);
    }

    void same(String call, long got, long due) {
        checked++;
        if (got != due) {
            report(call + " answered " + got + ", due is " + due);
        }
    }

    void same(String call, boolean got, boolean due) {
        same(call, got ? 1 : 0, due ? 1 : 0);
    }

    void same(String call, String got, String due) {
        checked++;
        if (!got.equals(due)) {
            report(call + " answered [" + got + "], due is [" + due + "]");
        }
    }

    void illegal(String call, Call made) {
        same(call, outcome(made), "throws.IllegalArgumentException");
    }

    void outOfBounds(String call, Call made) {
        same(call, outcome(made), "throws.IndexOutOfBoundsException");
    }

    /** The exact class counts: a subclass would be another exception than the document's. */
    static String outcome(Call made) {
        try {
            return Long.toString(made.answer());
        } catch (RuntimeException e) {
            return "throws." + e.getClass().getSimpleName();
        }
    }

    void finish() {
        endSentence();
        System.out.println(test + ": " + checked + " checked, " + wrong + " wrong");
        if (wrong > 0 || checked == 0) {
            System.exit(1);
        }
    }
}
