/** Promise 4: the replies to commands that are not as said, and that they change nothing. */
public final class BadCommandTest {
    private static final Check CHECK = new Check("BadCommandTest");
    private static final String FORMAT = "CLIENT_ERROR bad command line format";
    private static final String CHUNK = "CLIENT_ERROR bad data chunk";

    public static void main(String[] args) {
        noCommand();
        wrongWords();
        wrongData();
        blanks();
        CHECK.finish();
    }

    private static Talk stocked() {
        Talk talk = new Talk(CHECK);
        talk.due("set a 1 0 1\n5", "STORED");
        return talk;
    }

    private static void all(String reply, String... lines) {
        for (String line : lines) {
            Talk talk = stocked();
            talk.due(line, reply);
            talk.due("gets a", "VALUE a 1 1 1\n5\nEND");
            talk.figure(0, 1);
            talk.figure(1, 5);
            talk.figure(3, 1);
            talk.figure(6, 1);
            talk.figure(7, 0);
        }
    }

    private static void noCommand() {
        all("ERROR", "", " ", "     ", "\n", " \n ", "\nget a", "hello", "SET a 0 0 1\nx", "Get a", "seta 0 0 1\nx",
            "se", "sets a 0 0 1\nx", "getss a", "ge a", "a", "noreply", "hello noreply",
            "hello a b c d e f g h i j", "flush a", "flush_al", "flush_alll", "incr1 a 1", "x\nabc");
    }

    private static void wrongWords() {
        String[] storing = {"set", "add", "replace", "append", "prepend"};
        for (String verb : storing) {
            all(FORMAT, verb, verb + "\nx", verb + " a\nx", verb + " a 0\nx", verb + " a 0 0\nx",
                verb + " a 0 0 noreply\nx", verb + " a 0 0 1 noreply noreply\nx", verb + " a 0 0 1 1\nx",
                verb + " a 0 0 1 Noreply\nx", verb + " a 0 0 1 norepl\nx", verb + " a 0 0 1 noreplyy\nx",
                verb + " abcdefghi 0 0 1\nx", verb + " a x 0 1\nx", verb + " a -1 0 1\nx",
                verb + " a 1234567890 0 1\nx", verb + " a 0 x 1\nx", verb + " a 0 0 x\nx",
                verb + " a 0 0 -1\nx", verb + " a 0 0 0000000001\nx", verb + " a 0 0 1x\nx",
                verb + " abcdefghi 0 0 1 noreply\nx", verb + " a 0x 0 1\nx", verb + " a 0 0 1/\nx",
                verb + " a 0 0 :\nx", verb + " a 0 0 1 noreply 1 2 3 4 5\nx");
        }
        all(FORMAT, "cas", "cas a 0 0 1\nx", "cas a 0 0 1 noreply\nx", "cas a 0 0 1 x\nx",
            "cas a 0 0 1 -1\nx", "cas a 0 0 1 1234567890\nx", "cas a 0 0 1 1 1\nx",
            "cas a 0 0 1 1 noreply noreply\nx", "cas abcdefghi 0 0 1 1\nx", "cas a 0 0 1 1 noreply x y z\nx");
        all(FORMAT, "get", "gets", "get ", "get a a a a", "gets a a a a a a a a a a a", "get abcdefghi",
            "get a abcdefghi", "gets a a abcdefghi", "get abcdefghi a a");
        all(FORMAT, "delete", "delete a a", "delete abcdefghi", "delete a noreply noreply", "delete a 0",
            "delete noreply a");
        all(FORMAT, "touch", "touch a", "touch a noreply", "touch a x", "touch a 1 1",
            "touch abcdefghi 1", "touch a 1 noreply noreply");
        all(FORMAT, "flush_all a", "flush_all 0", "flush_all noreply noreply", "flush_all Noreply");
        all(FORMAT, "incr", "incr a", "incr a noreply", "incr a -1", "incr a x", "incr a 1 1",
            "incr a 1234567890", "incr abcdefghi 1", "incr a 1 noreply noreply");
        all(FORMAT, "decr", "decr a", "decr a noreply", "decr a -1", "decr a x", "decr a 1 1",
            "decr a 0000000001", "decr abcdefghi 1", "decr a 1 noreply noreply");
    }

    private static void wrongData() {
        String[] storing = {"set", "add", "replace", "append", "prepend"};
        for (String verb : storing) {
            all(CHUNK, verb + " a 0 0 1", verb + " a 0 0 0", verb + " a 0 0 1\n", verb + " a 0 0 1\nxx",
                verb + " a 0 0 0\nx", verb + " a 0 0 1\n\n\n", verb + " a 0 0 2\nx",
                verb + " a 0 0 999999999\nx", verb + " a 0 0 1 noreply\nxx", verb + " a 0 0 0 noreply",
                verb + " b 0 0 1\nxx", verb + " a 0 -1 1\nxx");
        }
        all(CHUNK, "cas a 0 0 1 1", "cas a 0 0 1 1\nxx", "cas a 0 0 1 1 noreply", "cas a 0 0 1 2\n");
        all(CHUNK, "get a\n", "get a\na", "gets a a\n", "get b\n\n", "delete a\n", "delete a noreply\n",
            "touch a 1\nx", "touch a -1 noreply\n", "flush_all\n", "flush_all noreply\nx", "incr a 1\n",
            "incr a 1 noreply\n1", "decr a 1\n", "decr b 1 noreply\n");
        // the words are looked at first
        all(FORMAT, "set a 0 0", "get\n", "delete\nx", "flush_all x\n", "incr a x\n", "touch a\n");
    }

    private static void blanks() {
        Talk talk = stocked();
        talk.due("   set    b   2    0   1   \nx", "STORED");
        talk.due("   get  b ", "VALUE b 2 1\nx\nEND");
        talk.due(" flush_all  ", "OK");
        talk.due("set b 0 0 1 \n ", "STORED");
        talk.due("get b", "VALUE b 0 1\n \nEND");
        talk.due("  set b 0 0 1   noreply   \ny", "");
        talk.due("delete   b   noreply ", "");
        talk.due("get b", "END");
    }
}
