/** How a command is looked at: a test for each sentence that names a boundary case. */
public final class FaultSentencesTest {
    private static final Check CHECK = new Check("FaultSentencesTest");
    private static final String FORMAT = "CLIENT_ERROR bad command line format";
    private static final String CHUNK = "CLIENT_ERROR bad data chunk";
    private static final String[] VERBS = {"set", "add", "replace", "append", "prepend", "cas", "get", "gets",
        "delete", "touch", "flush_all", "incr", "decr"};
    /** The words behind the first one, as each command must have them. */
    private static final String[] WORDS = {" a 0 0 1", " a 0 0 1", " a 0 0 1", " a 0 0 1", " a 0 0 1",
        " a 0 0 1 1", " a", " a", " a", " a 0", "", " a 1", " a 1"};
    private static final int STORING = 6;

    public static void main(String[] args) {
        noFirstWord();
        noneOfThese();
        wordsNotAsSaid();
        noBreak();
        lengthIsNotBytes();
        breakInAnother();
        inThisOrder();
        alsoWithNoreply();
        CHECK.finish();
    }

    /** With an item that each of the commands would find, or change. */
    private static Talk stocked() {
        Talk talk = new Talk(CHECK);
        talk.due("set a 1 9 1\n5", "STORED");
        return talk;
    }

    private static void refused(String reply, String... lines) {
        for (String line : lines) {
            Talk talk = stocked();
            talk.refused(reply, line);
            talk.due("gets a", "VALUE a 1 1 1\n5\nEND");
            talk.tick(9);
            talk.figure(0, 0);
        }
    }

    private static void noFirstWord() {
        CHECK.sentence("if it has no first word");
        refused("ERROR", "", " ", "        ", " ".repeat(140), "\n", "\n\n", "  \n", "\nget a", " \nset a 0 0 1\nx",
            "\n".repeat(140));
    }

    /** Without its last character: of gets that would leave get, so there it is without two. */
    private static String shortened(String verb) {
        return verb.substring(0, verb.equals("gets") ? 2 : verb.length() - 1);
    }

    private static void noneOfThese() {
        CHECK.sentence("or that is none of these: ERROR.");
        for (int i = 0; i < VERBS.length; i++) {
            String verb = VERBS[i];
            String rest = WORDS[i] + (i < STORING ? "\nx" : "");
            refused("ERROR", shortened(verb) + rest, verb + "x" + rest,
                verb.toUpperCase() + rest, verb.substring(0, 1).toUpperCase() + verb.substring(1) + rest,
                "x" + verb + rest, "x " + verb + rest);
        }
        refused("ERROR", "a", "0", "hello", "noreply", "noreply set a 0 0 1\nx", "flush", "all", "_", "stats",
            "verbosity 1", "x".repeat(140), "a b c d e f g h i j k l");
    }

    private static void wordsNotAsSaid() {
        CHECK.sentence("If its words are not as said here: \"CLIENT_ERROR bad command line format\".");
        for (int i = 0; i < VERBS.length; i++) {
            String data = i < STORING ? "\nx" : "";
            String line = VERBS[i] + WORDS[i];
            boolean get = VERBS[i].startsWith("get");
            // too many words, with noreply and without it
            refused(FORMAT, line + (get ? " a a" : "") + " 1" + data,
                line + (get ? " a a" : "") + " noreply noreply" + data, line + " b c d e f g h i j" + data);
            // each smaller number of words, with noreply and without it
            String fewer = line;
            while (fewer.indexOf(' ') > 0) {
                fewer = fewer.substring(0, fewer.lastIndexOf(' '));
                refused(FORMAT, fewer + data);
                if (fewer.indexOf(' ') > 0) {
                    refused(FORMAT, fewer + " noreply" + data);
                }
            }
        }
        refused(FORMAT, "set noreply\n", "cas a 0 0 1 noreply\nx", "touch a noreply", "incr a noreply", "decr noreply");
    }

    private static void noBreak() {
        CHECK.sentence("If it is one of the first six and the line has no break");
        for (int i = 0; i < STORING; i++) {
            String line = VERBS[i] + WORDS[i];
            refused(CHUNK, line, line.replace("0 0 1", "0 0 0"), line + "   ", line.replace(" a", " b"));
        }
    }

    private static void lengthIsNotBytes() {
        CHECK.sentence("or the data's length is not BYTES");
        for (int i = 0; i < STORING; i++) {
            String none = VERBS[i] + WORDS[i].replace("0 0 1", "0 0 0") + "\n";
            String one = VERBS[i] + WORDS[i] + "\n";
            String ten = VERBS[i] + WORDS[i].replace("0 0 1", "0 0 10") + "\n";
            refused(CHUNK, none + "x", none + "\n", one, one + "xx", one + "x\n", one + "\n\n", ten,
                ten + "x".repeat(9), ten + "x".repeat(11), ten.replace("10", "999999999") + "x",
                one.replace(" a", " b"));
        }
        // of a whole line
        refused(CHUNK, "set a 0 0 125\n" + "x".repeat(126), "set a 0 0 127\n" + "x".repeat(126));
    }

    private static void breakInAnother() {
        CHECK.sentence("or if it is another one and the line has a break: \"CLIENT_ERROR bad data chunk\".");
        for (int i = STORING; i < VERBS.length; i++) {
            String line = VERBS[i] + WORDS[i];
            refused(CHUNK, line + "\n", line + "\nx", line + " \n", line + "\n\n", line.replace(" a", " b") + "\n");
        }
    }

    private static void inThisOrder() {
        CHECK.sentence("A command is looked at like this");
        // an unknown word before wrong words and wrong data, wrong words before wrong data
        refused("ERROR", "hello a b c d e f g h i\nx", "gett\n", "sett a x 0 1", "flush\n");
        refused(FORMAT, "set a 0 0", "set a 0 0 x", "set abcdefghi 0 0 1", "set a 0 0 1 x\nxx", "cas a 0 0 1", "get\n",
            "get a a a a\n", "gets abcdefghi\nx", "delete\n", "touch a\n", "touch a x\n", "flush_all x\n", "incr a x\n",
            "decr a\n");
        // wrong data before what the item and the memory say
        refused(CHUNK, "add a 0 0 1\nxx", "replace b 0 0 1\nxx", "append b 0 0 1", "cas b 0 0 1 1\n", "cas a 0 0 1 9\n",
            "set a 0 0 64\n" + "x".repeat(65), "delete b\n", "touch b 1\n", "incr b 1\n", "decr b 1\n");
        Talk talk = stocked();
        talk.due("set n 0 0 1\nx", "STORED");
        talk.refused(CHUNK, "incr n 1\n");
        talk.refused(FORMAT, "incr n x");
    }

    private static void alsoWithNoreply() {
        CHECK.sentence("(In these three cases the reply is this, also with noreply.)");
        refused("ERROR", "noreply", "hello noreply", "sett a 0 0 1 noreply\nx", "flush noreply", "hello noreply\n");
        for (int i = 0; i < VERBS.length; i++) {
            String data = i < STORING ? "\nx" : "";
            String line = VERBS[i] + WORDS[i];
            boolean get = VERBS[i].startsWith("get");
            if (!line.equals("flush_all")) {
                refused(FORMAT, line.replace(" a", " abcdefghi") + " noreply" + data);
            }
            refused(FORMAT, line + (get ? " a a" : " x") + " noreply" + data);
            refused(CHUNK, line + " noreply" + (i < STORING ? "\nxx" : "\n"));
            if (i < STORING) {
                refused(CHUNK, line + " noreply", line.replace("0 0 1", "0 0 0") + " noreply");
            }
        }
    }
}
