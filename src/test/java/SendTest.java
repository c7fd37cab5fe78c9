/** Promise 4: send, the replies to each command. */
public final class SendTest {
    private static final Check CHECK = new Check("SendTest");

    public static void main(String[] args) {
        emptiesTheLine();
        setAndGet();
        addAndReplace();
        looksForTheItemBeforeItsSize();
        appendAndPrepend();
        appendUpToTheLargestItem();
        cas();
        getSeveral();
        deleteAndFlush();
        touch();
        timesToLive();
        wrongTimesToLive();
        goneAtOnceIsStoredFirst();
        incrAndDecr();
        dataThatAreNoNumber();
        noreply();
        longestReply();
        CHECK.finish();
    }

    private static void emptiesTheLine() {
        Talk talk = new Talk(CHECK);
        talk.write("set a 0 0 1\nq");
        CHECK.same("send()", talk.pantry.send(), 6);
        talk.figure(8, 0);
        CHECK.same("send()", talk.pantry.send(), 5);
        talk.write("hello");
        CHECK.same("send()", talk.pantry.send(), 5);
        talk.figure(8, 0);
        talk.write("set a");
        CHECK.same("send()", talk.pantry.send(), 36);
        talk.figure(8, 0);
        talk.write("get a\n");
        CHECK.same("send()", talk.pantry.send(), 27);
        talk.figure(8, 0);
    }

    private static void setAndGet() {
        Talk talk = new Talk(CHECK);
        talk.due("set a 7 0 3\nxyz", "STORED");
        talk.due("get a", "VALUE a 7 3\nxyz\nEND");
        talk.due("set a 007 0 1\nq", "STORED");
        talk.due("get a", "VALUE a 7 1\nq\nEND");
        talk.due("set a 999999999 0 0\n", "STORED");
        talk.due("gets a", "VALUE a 999999999 0 3\n\nEND");
        talk.due("set a 000000000 0 00002\n\n\n", "STORED");
        talk.due("get a", "VALUE a 0 2\n\n\n\nEND");
        talk.due("set a 100 0 6\n  b  \n", "STORED");
        talk.due("get a", "VALUE a 100 6\n  b  \n\nEND");
        talk.due("set !~\"#-_/ 1 0 1\n~", "STORED");
        talk.due("get !~\"#-_/", "VALUE !~\"#-_/ 1 1\n~\nEND");
        // a key that begins another one, or differs in its case, is another key
        talk.due("set abcdefgh 1 0 1\n1", "STORED");
        talk.due("set abcdefg 2 0 1\n2", "STORED");
        talk.due("set Abcdefg 3 0 1\n3", "STORED");
        talk.due("set abcdefi 4 0 1\n4", "STORED");
        talk.due("get abcdefgh abcdefg Abcdefg",
            "VALUE abcdefgh 1 1\n1\nVALUE abcdefg 2 1\n2\nVALUE Abcdefg 3 1\n3\nEND");
        // data that begin as a longer key goes on do not make it found
        talk.due("set k 0 0 2\nyz", "STORED");
        talk.due("get kyz ky", "END");
        talk.figure(0, 7);
    }

    private static void addAndReplace() {
        Talk talk = new Talk(CHECK);
        talk.due("replace a 1 0 1\nx", "NOT_STORED");
        talk.figure(0, 0);
        talk.due("add a 1 0 1\nx", "STORED");
        talk.due("add a 2 0 1\ny", "NOT_STORED");
        talk.due("get a", "VALUE a 1 1\nx\nEND");
        talk.due("replace a 3 0 2\nzz", "STORED");
        talk.due("gets a", "VALUE a 3 2 2\nzz\nEND");
    }

    private static void looksForTheItemBeforeItsSize() {
        Talk talk = new Talk(CHECK);
        talk.due("set a 1 0 1\nx", "STORED");
        talk.due("set a 3 0 2\nzz", "STORED");
        talk.due("add a 0 0 64\n" + "x".repeat(64), "NOT_STORED");
        talk.due("replace b 0 0 64\n" + "x".repeat(64), "NOT_STORED");
        talk.due("append b 0 0 64\n" + "x".repeat(64), "NOT_STORED");
        talk.due("cas b 0 0 64 1\n" + "x".repeat(64), "NOT_FOUND");
        talk.due("cas a 0 0 64 1\n" + "x".repeat(64), "EXISTS");
        talk.due("cas a 0 0 64 2\n" + "x".repeat(64), "SERVER_ERROR object too large for cache");
        talk.due("add b 0 0 64\n" + "x".repeat(64), "SERVER_ERROR object too large for cache");
        talk.due("replace a 0 0 64\n" + "x".repeat(64), "SERVER_ERROR object too large for cache");
        talk.due("gets a", "VALUE a 3 2 2\nzz\nEND");
    }

    private static void appendAndPrepend() {
        Talk talk = new Talk(CHECK);
        talk.due("append a 0 0 1\nx", "NOT_STORED");
        talk.due("prepend a 0 0 1\nx", "NOT_STORED");
        talk.due("set a 5 3 2\nmn", "STORED");
        talk.due("append a 9 0 2\nop", "STORED");
        talk.due("gets a", "VALUE a 5 4 2\nmnop\nEND");
        talk.due("prepend a 9 -1 2\nkl", "STORED");
        talk.due("gets a", "VALUE a 5 6 3\nklmnop\nEND");
        talk.due("append a 9 100 0\n", "STORED");
        talk.due("gets a", "VALUE a 5 6 4\nklmnop\nEND");
        // it keeps its own time
        talk.tick(2);
        talk.due("prepend a 9 100 1\nj", "STORED");
        talk.tick(1);
        talk.due("get a", "END");
        talk.figure(5, 1);
    }

    private static void appendUpToTheLargestItem() {
        Talk talk = new Talk(CHECK);
        talk.stored("b", 32);
        talk.due("append b 0 0 31\n" + "y".repeat(31), "STORED");
        talk.due("get b", "VALUE b 0 63\n" + "x".repeat(32) + "y".repeat(31) + "\nEND");
        talk.due("append b 0 0 1\nz", "SERVER_ERROR object too large for cache");
        talk.due("prepend b 0 0 120\n" + "z".repeat(120), "SERVER_ERROR object too large for cache");
        talk.due("get b", "VALUE b 0 63\n" + "x".repeat(32) + "y".repeat(31) + "\nEND");
        talk.slab(3, 1, 1, 0);
    }

    private static void cas() {
        Talk talk = new Talk(CHECK);
        talk.due("cas a 0 0 1 1\nx", "NOT_FOUND");
        talk.due("set a 1 0 1\nx", "STORED");
        talk.due("cas a 2 0 1 0\ny", "EXISTS");
        talk.due("cas a 2 0 1 2\ny", "EXISTS");
        talk.due("cas a 2 0 1 999999999\ny", "EXISTS");
        talk.due("cas a 2 0 1 0001\ny", "STORED");
        talk.due("cas a 3 0 1 1\nz", "EXISTS");
        talk.due("gets a", "VALUE a 2 1 2\ny\nEND");
        talk.due("touch a 5", "TOUCHED");
        talk.due("cas a 3 2 1 2 noreply\nz", "");
        talk.due("gets a", "VALUE a 3 1 3\nz\nEND");
        talk.tick(2);
        talk.due("cas a 3 2 1 3\nz", "NOT_FOUND");
    }

    private static void getSeveral() {
        Talk talk = new Talk(CHECK);
        talk.due("set a 1 0 1\nx", "STORED");
        talk.due("set b 2 0 20\n" + "y".repeat(20), "STORED");
        talk.due("get b a", "VALUE b 2 20\n" + "y".repeat(20) + "\nVALUE a 1 1\nx\nEND");
        talk.due("gets a c b", "VALUE a 1 1 1\nx\nVALUE b 2 20 2\n" + "y".repeat(20) + "\nEND");
        talk.due("get c d e", "END");
        talk.due("gets  a   a a ", "VALUE a 1 1 1\nx\nVALUE a 1 1 1\nx\nVALUE a 1 1 1\nx\nEND");
        // get knows no noreply: it is a key there
        talk.due("get a noreply", "VALUE a 1 1\nx\nEND");
        talk.due("set noreply 3 0 1\nz", "STORED");
        talk.due("get noreply a", "VALUE noreply 3 1\nz\nVALUE a 1 1\nx\nEND");
        talk.due("gets a a noreply", "VALUE a 1 1 1\nx\nVALUE a 1 1 1\nx\nVALUE noreply 3 1 3\nz\nEND");
        talk.due("get a a a noreply", "CLIENT_ERROR bad command line format");
    }

    private static void deleteAndFlush() {
        Talk talk = new Talk(CHECK);
        talk.due("delete a", "NOT_FOUND");
        talk.stored("a", 1);
        talk.stored("b", 10);
        talk.stored("c", 1);
        talk.due("delete a", "DELETED");
        talk.due("delete a", "NOT_FOUND");
        talk.due("get a b", "VALUE b 0 10\nxxxxxxxxxx\nEND");
        talk.due("flush_all", "OK");
        talk.due("get a b c", "END");
        talk.due("flush_all", "OK");
        talk.figure(0, 0);
        talk.stored("noreply", 1);
        talk.due("delete noreply", "DELETED");
        talk.stored("noreply", 1);
        talk.due("delete noreply noreply", "");
        talk.due("delete noreply", "NOT_FOUND");
    }

    private static void touch() {
        Talk talk = new Talk(CHECK);
        talk.due("touch a 1", "NOT_FOUND");
        talk.due("set a 0 2 1\nx", "STORED");
        talk.tick(1);
        talk.due("touch a 2", "TOUCHED");
        talk.tick(1);
        talk.due("gets a", "VALUE a 0 1 1\nx\nEND");
        talk.due("touch a 0", "TOUCHED");
        talk.tick(1000);
        talk.due("touch a 1", "TOUCHED");
        talk.tick(1);
        talk.due("touch a 1", "NOT_FOUND");
        talk.due("set a 0 0 1\nx", "STORED");
        talk.due("touch a -0", "TOUCHED");
        talk.due("touch a -0", "NOT_FOUND");
        talk.figure(5, 2);
    }

    private static void timesToLive() {
        Talk talk = new Talk(CHECK);
        String[] atOnce = {"-1", "-0", "-000", "-999999999", "-000000001"};
        for (int i = 0; i < atOnce.length; i++) {
            talk.due("set a 0 0 1\nx", "STORED");
            talk.due("set a 0 " + atOnce[i] + " 1\nx", "STORED");
            talk.due("get a", "END");
            talk.figure(5, i + 1);
            talk.figure(3, 2 * i + 2);
        }
        talk.due("set a 0 000000002 1\nx", "STORED");
        talk.tick(1);
        talk.figure(0, 1);
        talk.tick(1);
        talk.figure(0, 0);
    }

    private static void wrongTimesToLive() {
        String[] wrong = {"-", "--1", "1-", "+1", "-1234567890", "1234567890", "1.0", "x", "-x"};
        for (String life : wrong) {
            Talk talk = new Talk(CHECK);
            talk.due("set a 0 " + life + " 1\nx", "CLIENT_ERROR bad command line format");
            talk.due("touch a " + life, "CLIENT_ERROR bad command line format");
        }
    }

    /** What is gone at once is stored first: a page is taken, or an item gives way. */
    private static void goneAtOnceIsStoredFirst() {
        Talk talk = new Talk(CHECK);
        talk.due("set a 0 -1 1\nx", "STORED");
        talk.slab(0, 1, 0, 8);
        talk.figure(1, 5);
        for (int i = 0; i < 5; i++) {
            talk.stored("k" + i, 60);
        }
        talk.due("set z 0 -1 60\n" + "z".repeat(60), "STORED");
        talk.figure(4, 1);
        talk.due("get k0", "END");
        talk.slab(3, 5, 4, 1);
        talk.due("set z 0 -1 10\n" + "z".repeat(10), "SERVER_ERROR out of memory storing object");
        talk.due("set z 0 -1 64\n" + "z".repeat(64), "SERVER_ERROR object too large for cache");
    }

    private static void incrAndDecr() {
        Talk talk = new Talk(CHECK);
        talk.due("incr n 1", "NOT_FOUND");
        talk.due("decr n 1", "NOT_FOUND");
        talk.due("set n 4 9 2\n10", "STORED");
        talk.due("incr n 5", "15");
        talk.due("decr n 6", "9");
        talk.due("gets n", "VALUE n 4 1 3\n9\nEND");
        talk.due("decr n 10", "0");
        talk.due("incr n 999999999", "999999999");
        talk.due("incr n 1", "0");
        talk.due("incr n 999999999", "999999999");
        talk.due("incr n 999999999", "999999998");
        talk.due("decr n 999999999", "0");
        talk.due("incr n 000000120", "120");
        talk.due("incr n 0", "120");
        talk.due("decr n 0", "120");
        talk.tick(9);
        talk.due("incr n 1", "NOT_FOUND");
        talk.due("set n 0 0 5\n00099", "STORED");
        talk.due("incr n 1", "100");
        talk.due("get n", "VALUE n 0 3\n100\nEND");
        talk.due("set n 0 0 9\n000000000", "STORED");
        talk.due("decr n 0", "0");
        talk.due("get n", "VALUE n 0 1\n0\nEND");
    }

    private static void dataThatAreNoNumber() {
        String no = "CLIENT_ERROR cannot increment or decrement non-numeric value";
        String[] data = {"", "x", "1x", "-1", " 1", "1 ", "1\n", "1234567890", "0000000001", "1/2", "1:2"};
        for (String text : data) {
            Talk talk = new Talk(CHECK);
            talk.due("set n 0 0 " + text.length() + "\n" + text, "STORED");
            talk.due("incr n 1", no);
            talk.due("decr n 1", no);
            talk.due("get n", "VALUE n 0 " + text.length() + "\n" + text + "\nEND");
        }
    }

    private static void noreply() {
        Talk talk = new Talk(CHECK);
        talk.due("set a 0 0 1 noreply\n1", "");
        talk.due("add a 0 0 1 noreply\n2", "");
        talk.due("add b 0 0 1 noreply\n3", "");
        talk.due("replace b 0 0 1 noreply \n4", "");
        talk.due("replace c 0 0 1 noreply\n5", "");
        talk.due("append a 0 0 1   noreply\n6", "");
        talk.due("prepend b 0 0 1 noreply\n7", "");
        talk.due("incr a 1 noreply", "");
        talk.due("decr b 1 noreply", "");
        talk.due("cas a 0 0 2 9 noreply\n99", "");
        talk.due("get a b c", "VALUE a 0 2\n17\nVALUE b 0 2\n73\nEND");
        talk.due("touch b -1 noreply", "");
        talk.due("delete a noreply", "");
        talk.due("delete a noreply", "");
        talk.due("get a b c", "END");
        talk.due("set a 0 0 64 noreply\n" + "x".repeat(64), "");
        talk.due("set a 0 0 1 noreply\nx", "");
        talk.due("incr a 1 noreply", "");
        talk.due("flush_all noreply", "");
        talk.figure(0, 0);
    }

    private static void longestReply() {
        Talk talk = new Talk(CHECK);
        String due = "";
        for (int i = 0; i < 3; i++) {
            String key = "abcdefg" + i;
            talk.due("set " + key + " 123456789 0 56\n" + "x".repeat(56), "STORED");
            due += "VALUE " + key + " 123456789 56 " + (i + 1) + "\n" + "x".repeat(56) + "\n";
        }
        talk.due("gets abcdefg0 abcdefg1 abcdefg2", due + "END");
    }
}
