/** The table of commands: a test for each sentence that names a boundary case. */
public final class CommandSentencesTest {
    private static final Check CHECK = new Check("CommandSentencesTest");
    private static final String FORMAT = "CLIENT_ERROR bad command line format";
    private static final String LARGE = "SERVER_ERROR object too large for cache";
    private static final String NO_NUMBER = "CLIENT_ERROR cannot increment or decrement non-numeric value";

    public static void main(String[] args) {
        set();
        addIfThereIsNone();
        replaceIfThereIsOne();
        appendIfThereIsOne();
        ownFlagsAndTime();
        dataBeforeAndBehind();
        casNotFound();
        casExists();
        casAsSet();
        oneToThreeKeys();
        foundInTheirOrder();
        lengthOfTheData();
        getsTellsTheToken();
        deletedOrNotFound();
        touchedOrNotFound();
        flushTakesAllAway();
        incrNotFound();
        incrOfNoNumber();
        incrOwnFlagsAndTime();
        sumModulo();
        differenceOrZero();
        replyIsTheNumber();
        withoutZeros();
        CHECK.finish();
    }

    private static Talk talk() {
        return new Talk(CHECK);
    }

    private static String data(int length) {
        return length + "\n" + "y".repeat(length);
    }

    private static void set() {
        CHECK.sentence("stores the item: STORED.");
        Talk talk = talk();
        talk.due("set a 0 0 0\n", "STORED");
        talk.due("get a", "VALUE a 0 0\n\nEND");
        talk.due("set a 999999999 0 " + data(63), "STORED");
        talk.due("get a", "VALUE a 999999999 63\n" + "y".repeat(63) + "\nEND");
        talk.due("set a 1 0 1\n\n", "STORED");
        talk.due("get a", "VALUE a 1 1\n\n\nEND");
    }

    private static void addIfThereIsNone() {
        CHECK.sentence("likewise if there is none with this key, otherwise NOT_STORED.");
        Talk talk = talk();
        talk.due("add a 1 0 1\nx", "STORED");
        talk.refused("NOT_STORED", "add a 2 0 1\ny", "add a 2 -1 1\ny", "add a 1 0 1\nx", "add a 1 0 " + data(64));
        talk.due("add aa 3 0 1\ny", "STORED");
        talk.due("gets a aa", "VALUE a 1 1 1\nx\nVALUE aa 3 1 2\ny\nEND");
        // once it was taken away, in whatever way, there is none
        talk.due("delete a", "DELETED");
        talk.due("add a 4 5 1\nx", "STORED");
        talk.tick(5);
        talk.due("add a 5 -1 1\nx", "STORED");
        talk.due("add a 6 0 1\nx", "STORED");
        talk.due("flush_all", "OK");
        talk.due("add a 7 0 1\nx", "STORED");
        for (int i = 0; i < 6; i++) {
            talk.stored("p" + i, 62);
        }
        talk.due("add p0 8 0 " + data(62), "STORED");
    }

    private static void replaceIfThereIsOne() {
        CHECK.sentence("likewise if there is one, otherwise NOT_STORED.");
        Talk talk = talk();
        talk.refused("NOT_STORED", "replace a 1 0 1\nx", "replace a 1 0 " + data(64));
        talk.due("set aa 1 0 1\nx", "STORED");
        talk.refused("NOT_STORED", "replace a 1 0 1\nx");
        talk.due("set a 1 3 1\nx", "STORED");
        talk.due("replace a 2 3 2\nyy", "STORED");
        talk.due("gets a", "VALUE a 2 2 3\nyy\nEND");
        talk.refused(LARGE, "replace a 1 0 " + data(64));
        talk.tick(3);
        talk.refused("NOT_STORED", "replace a 1 0 1\nx");
    }

    private static void appendIfThereIsOne() {
        CHECK.sentence("STORED; otherwise NOT_STORED.");
        Talk talk = talk();
        talk.refused("NOT_STORED", "append a 0 0 1\nx", "prepend a 0 0 1\nx", "append a 0 0 0\n",
            "append a 0 0 " + data(64), "prepend a 0 0 " + data(64));
        talk.due("set ab 0 0 1\nx", "STORED");
        talk.refused("NOT_STORED", "append a 0 0 1\nx", "prepend abc 0 0 1\nx");
        talk.due("append ab 0 0 1\ny", "STORED");
        talk.due("prepend ab 0 0 1\nw", "STORED");
        talk.due("get ab", "VALUE ab 0 3\nwxy\nEND");
    }

    private static void ownFlagsAndTime() {
        CHECK.sentence("it is stored with its own flags and time");
        String[] verbs = {"append", "prepend"};
        for (String verb : verbs) {
            Talk talk = talk();
            talk.due("set a 7 5 1\nx", "STORED");
            talk.due("set n 8 0 1\nx", "STORED");
            talk.tick(3);
            talk.due(verb + " a 1 100 0\n", "STORED");
            talk.due(verb + " a 1 0 0\n", "STORED");
            talk.due(verb + " a 1 -1 0\n", "STORED");
            talk.due(verb + " n 1 1 0\n", "STORED");
            talk.due("gets a n", "VALUE a 7 1 5\nx\nVALUE n 8 1 6\nx\nEND");
            talk.tick(1);
            talk.figure(0, 2);
            // not later than its own time, and not n after the present one
            talk.tick(1);
            talk.figure(0, 1);
            talk.tick(1000000);
            talk.figure(0, 1);
        }
    }

    private static void dataBeforeAndBehind() {
        CHECK.sentence("its data followed by the new ones (append) or the new ones followed by its own");
        Talk talk = talk();
        talk.due("set a 0 0 2\nmn", "STORED");
        talk.due("append a 0 0 0\n", "STORED");
        talk.due("prepend a 0 0 0\n", "STORED");
        talk.due("get a", "VALUE a 0 2\nmn\nEND");
        talk.due("append a 0 0 2\nop", "STORED");
        talk.due("prepend a 0 0 2\nkl", "STORED");
        talk.due("get a", "VALUE a 0 6\nklmnop\nEND");
        // to empty data
        talk.due("set a 0 0 0\n", "STORED");
        talk.due("append a 0 0 1\nz", "STORED");
        talk.due("set b 0 0 0\n", "STORED");
        talk.due("prepend b 0 0 2\n\n ", "STORED");
        talk.due("get a b", "VALUE a 0 1\nz\nVALUE b 0 2\n\n \nEND");
        // from the class's last character into the next class
        talk.due("set a 0 0 7\n1234567", "STORED");
        talk.due("append a 0 0 1\n8", "STORED");
        talk.due("prepend a 0 0 7\n7654321", "STORED");
        talk.due("prepend a 0 0 1\n8", "STORED");
        talk.due("get a", "VALUE a 0 16\n8765432112345678\nEND");
        talk.order(2, 13);
    }

    private static void casNotFound() {
        CHECK.sentence("NOT_FOUND if there is none with this key");
        Talk talk = talk();
        talk.refused("NOT_FOUND", "cas a 0 0 1 0\nx", "cas a 0 0 1 1\nx", "cas a 0 0 64 1\n" + "y".repeat(64));
        talk.due("set b 0 2 1\nx", "STORED");
        talk.refused("NOT_FOUND", "cas a 0 0 1 1\nx");
        talk.tick(2);
        talk.refused("NOT_FOUND", "cas b 0 0 1 1\nx");
    }

    private static void casExists() {
        CHECK.sentence("EXISTS if its token is not this number");
        Talk talk = talk();
        talk.due("set a 0 0 1\nx", "STORED");
        talk.due("set b 0 0 1\nx", "STORED");
        talk.refused("EXISTS", "cas a 0 0 1 0\ny", "cas a 0 0 1 2\ny", "cas a 0 0 1 10\ny", "cas a 0 0 1 999999999\ny",
            "cas a 0 -1 1 2\ny", "cas b 0 0 1 1\ny", "cas a 0 0 64 2\n" + "y".repeat(64));
        // every change of the item counts, but not that it was found or touched
        Talk changed = talk();
        changed.due("set a 0 0 1\nx", "STORED");
        changed.due("get a", "VALUE a 0 1\nx\nEND");
        changed.due("touch a 0", "TOUCHED");
        changed.due("cas a 0 0 1 1\n1", "STORED");
        changed.refused("EXISTS", "cas a 0 0 1 1\n1");
        changed.due("incr a 1", "2");
        changed.refused("EXISTS", "cas a 0 0 1 2\n1");
        changed.due("append a 0 0 0\n", "STORED");
        changed.refused("EXISTS", "cas a 0 0 1 3\n1");
        changed.due("cas a 0 0 1 4\n1", "STORED");
    }

    private static void casAsSet() {
        CHECK.sentence("EXISTS if its token is not this number, otherwise as set.");
        Talk talk = talk();
        talk.due("set a 1 0 1\nx", "STORED");
        talk.due("cas a 2 3 2 000000001\nyy", "STORED");
        talk.due("gets a", "VALUE a 2 2 2\nyy\nEND");
        talk.tick(3);
        talk.figure(0, 0);
        talk.due("set a 1 0 1\nx", "STORED");
        talk.refused(LARGE, "cas a 0 0 64 3\n" + "y".repeat(64));
        talk.due("cas a 0 -1 1 3\nx", "STORED");
        talk.figure(0, 0);
        talk.figure(5, 2);
        for (int i = 0; i < 5; i++) {
            talk.stored("p" + i, 62);
        }
        talk.refused("SERVER_ERROR out of memory storing object", "cas p4 0 0 20 9\n" + "y".repeat(20));
        talk.due("cas p4 0 0 1 9\nx", "STORED");
        talk.order(0, 10);
    }

    private static void oneToThreeKeys() {
        CHECK.sentence("(one to three keys)");
        String[] verbs = {"get", "gets"};
        for (String verb : verbs) {
            Talk wrong = talk();
            wrong.stored("a", 1);
            wrong.refused(FORMAT, verb, verb + "   ", verb + " a a a a", verb + " a b c d",
                verb + " a a a a a a a a a a");
            Talk talk = talk();
            talk.stored("a", 1);
            talk.due(verb + " z", "END");
            talk.due(verb + " y z", "END");
            talk.due(verb + " x y z", "END");
            talk.figure(7, 6);
            String value = "VALUE a 0 1" + (verb.equals("gets") ? " 1" : "") + "\nx\n";
            talk.due(verb + " a", value + "END");
            talk.due(verb + " a a", value + value + "END");
            talk.due(verb + " a a a", value + value + value + "END");
            talk.figure(6, 6);
            // noreply is a key here
            talk.due(verb + " a noreply", value + "END");
            talk.refused(FORMAT, verb + " a a a noreply");
            talk.figure(7, 7);
        }
    }

    private static void foundInTheirOrder() {
        CHECK.sentence("for each of them, in this order, if there is an item");
        Talk talk = talk();
        talk.due("set a 1 0 1\nx", "STORED");
        talk.due("set b 2 0 1\ny", "STORED");
        talk.due("get b a", "VALUE b 2 1\ny\nVALUE a 1 1\nx\nEND");
        talk.due("get a z b", "VALUE a 1 1\nx\nVALUE b 2 1\ny\nEND");
        talk.due("get z z a", "VALUE a 1 1\nx\nEND");
        talk.due("get b z z", "VALUE b 2 1\ny\nEND");
        talk.due("get z z z", "END");
        talk.figure(6, 6);
        talk.figure(7, 8);
        talk.due("flush_all", "OK");
        talk.due("get a b", "END");
    }

    private static void lengthOfTheData() {
        CHECK.sentence("the length of the data, a break, the data, a break; behind all END.");
        Talk talk = talk();
        int[] lengths = {0, 1, 9, 10, 56};
        for (int length : lengths) {
            talk.due("set abcdefgh 0 0 " + data(length), "STORED");
            talk.due("get abcdefgh", "VALUE abcdefgh 0 " + length + "\n" + "y".repeat(length) + "\nEND");
        }
        talk.due("set a 0 0 3\nEND", "STORED");
        talk.due("get a", "VALUE a 0 3\nEND\nEND");
    }

    private static void getsTellsTheToken() {
        CHECK.sentence("likewise with a blank and the token behind the length.");
        Talk talk = talk();
        for (int i = 1; i <= 12; i++) {
            talk.due("set a 0 0 0\n", "STORED");
        }
        talk.due("gets a", "VALUE a 0 0 12\n\nEND");
        talk.due("get a", "VALUE a 0 0\n\nEND");
        talk.due("gets z", "END");
    }

    private static void deletedOrNotFound() {
        CHECK.sentence("DELETED or NOT_FOUND.");
        Talk talk = talk();
        talk.refused("NOT_FOUND", "delete a");
        talk.stored("a", 1);
        talk.stored("ab", 1);
        talk.due("delete a", "DELETED");
        talk.refused("NOT_FOUND", "delete a", "delete b", "delete abc");
        talk.order(0, 2);
        talk.slab(0, 1, 1, 7);
        talk.figure(4, 0);
        talk.figure(5, 0);
        talk.due("set ab 0 1 1\nx", "STORED");
        talk.tick(1);
        talk.refused("NOT_FOUND", "delete ab");
    }

    private static void touchedOrNotFound() {
        CHECK.sentence("the item has this time: TOUCHED, or NOT_FOUND.");
        Talk talk = talk();
        talk.refused("NOT_FOUND", "touch a 0", "touch a 1", "touch a -1");
        talk.due("set a 7 2 1\nx", "STORED");
        talk.tick(1);
        talk.due("touch a 2", "TOUCHED");
        talk.tick(1);
        talk.due("gets a", "VALUE a 7 1 1\nx\nEND");
        talk.tick(1);
        talk.refused("NOT_FOUND", "touch a 9");
        // never gone, and then gone at once
        talk.due("set a 7 2 1\nx", "STORED");
        talk.due("touch a 0", "TOUCHED");
        talk.tick(1000000);
        talk.figure(0, 1);
        talk.due("touch a -0", "TOUCHED");
        talk.refused("NOT_FOUND", "touch a 0");
        talk.figure(5, 2);
        talk.figure(3, 2);
    }

    private static void flushTakesAllAway() {
        CHECK.sentence("takes all items away: OK.");
        Talk talk = talk();
        talk.refused("OK", "flush_all");
        int[] lengths = {0, 1, 10, 11, 20, 40};
        for (int length : lengths) {
            talk.stored("k" + length, length);
        }
        talk.due("flush_all", "OK");
        talk.figure(0, 0);
        talk.slab(0, 1, 0, 8);
        talk.slab(1, 1, 0, 4);
        talk.slab(2, 1, 0, 2);
        talk.slab(3, 1, 0, 1);
        talk.figure(4, 0);
        talk.figure(5, 0);
        talk.refused("OK", "flush_all");
        // all chunks can be used again
        for (int i = 0; i < 8; i++) {
            talk.stored("k" + i, 1);
        }
        talk.slab(0, 1, 8, 0);
    }

    private static void incrNotFound() {
        CHECK.sentence("NOT_FOUND if there is none;");
        Talk talk = talk();
        talk.refused("NOT_FOUND", "incr n 1", "decr n 1", "incr n 0", "decr n 999999999");
        talk.due("set n 0 1 1\n1", "STORED");
        talk.tick(1);
        talk.refused("NOT_FOUND", "incr n 1", "decr n 1");
    }

    private static void incrOfNoNumber() {
        CHECK.sentence("if its data are no number: \"CLIENT_ERROR cannot increment or decrement non-numeric value\"");
        String[] no = {"", " ", "x", "1x", "x1", "-1", "+1", " 1", "1 ", "1\n", "\n1", "1 2", "1.0", "/", ":",
            "1234567890", "0000000000", "0000000001", "9".repeat(50)};
        for (String data : no) {
            Talk talk = talk();
            talk.due("set n 3 0 " + data.length() + "\n" + data, "STORED");
            talk.refused(NO_NUMBER, "incr n 1", "decr n 1", "incr n 0");
            talk.due("gets n", "VALUE n 3 " + data.length() + " 1\n" + data + "\nEND");
        }
        String[] yes = {"0", "9", "123456789", "999999999", "000000000", "000000001", "007"};
        for (String data : yes) {
            Talk talk = talk();
            talk.due("set n 3 0 " + data.length() + "\n" + data, "STORED");
            talk.due("incr n 0", Integer.toString(Integer.parseInt(data)));
        }
    }

    private static void incrOwnFlagsAndTime() {
        CHECK.sentence("otherwise it is stored with its own flags and time");
        String[] verbs = {"incr", "decr"};
        for (String verb : verbs) {
            Talk talk = talk();
            talk.due("set n 7 5 1\n0", "STORED");
            talk.due("set m 8 0 1\n0", "STORED");
            talk.tick(4);
            talk.due(verb + " n 0", "0");
            talk.due(verb + " m 0", "0");
            talk.due("gets n m", "VALUE n 7 1 3\n0\nVALUE m 8 1 4\n0\nEND");
            talk.tick(1);
            talk.order(0, 4);
            talk.tick(1000000);
            talk.order(0, 4);
        }
        // it may change its class, both ways
        Talk talk = talk();
        talk.due("set abcdefg 0 0 1\n9", "STORED");
        talk.due("incr abcdefg 1", "10");
        talk.order(0);
        talk.order(1, 2);
        talk.due("decr abcdefg 1", "9");
        talk.order(0, 3);
        talk.order(1);
    }

    private static void sumModulo() {
        CHECK.sentence("its data being the sum, modulo 1000000000");
        String[] rows = {"0 0 0", "0 1 1", "9 1 10", "999999998 1 999999999", "999999999 0 999999999",
            "999999999 1 0", "999999999 2 1", "1 999999999 0", "500000000 500000000 0", "500000000 499999999 999999999",
            "999999999 999999999 999999998", "000000005 000000005 10"};
        for (String row : rows) {
            calculated("incr", row.split(" "));
        }
    }

    private static void differenceOrZero() {
        CHECK.sentence("or the difference, or 0 if that is below 0");
        String[] rows = {"0 0 0", "1 1 0", "1 0 1", "0 1 0", "5 6 0", "10 1 9", "100 1 99", "999999999 999999999 0",
            "999999999 999999998 1", "0 999999999 0", "999999999 0 999999999", "1000 1 999"};
        for (String row : rows) {
            calculated("decr", row.split(" "));
        }
    }

    /** The data, the number in the command, and what comes of them. */
    private static void calculated(String verb, String[] row) {
        Talk talk = talk();
        talk.due("set n 0 0 " + row[0].length() + "\n" + row[0], "STORED");
        talk.due(verb + " n " + row[1], row[2]);
        talk.due("gets n", "VALUE n 0 " + row[2].length() + " 2\n" + row[2] + "\nEND");
    }

    private static void replyIsTheNumber() {
        CHECK.sentence("the reply is this number.");
        Talk talk = talk();
        talk.due("set n 0 0 1\n0", "STORED");
        talk.write("incr n 0");
        talk.sent(1);
        talk.character(0, '0');
        talk.write("incr n 999999999");
        talk.sent(9);
        talk.character(8, '9');
        CHECK.outOfBounds("reply(9)", () -> talk.pantry.reply(9));
    }

    private static void withoutZeros() {
        CHECK.sentence("(Numbers are written in decimals, without zeros in front.)");
        Talk talk = talk();
        talk.due("set n 000000070 0 000000003\n099", "STORED");
        talk.due("gets n", "VALUE n 70 3 1\n099\nEND");
        talk.due("incr n 000000001", "100");
        talk.due("decr n 90", "10");
        talk.due("decr n 1", "9");
        talk.due("decr n 9", "0");
        talk.due("gets n", "VALUE n 70 1 5\n0\nEND");
        talk.due("set n 000000000 0 9\n000000000", "STORED");
        talk.due("get n", "VALUE n 0 9\n000000000\nEND");
        talk.due("decr n 0", "0");
        talk.due("get n", "VALUE n 0 1\n0\nEND");
        talk.due("set n 100000000 0 9\n100000000", "STORED");
        talk.due("incr n 0", "100000000");
        talk.due("get n", "VALUE n 100000000 9\n100000000\nEND");
    }
}
