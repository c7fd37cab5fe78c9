/** 'Terms', in a command: a test for each sentence that names a boundary case. */
public final class WordSentencesTest {
    private static final Check CHECK = new Check("WordSentencesTest");
    private static final String FORMAT = "CLIENT_ERROR bad command line format";
    /** What is no number: beside the decimals, one decimal too many, a sign, a point. */
    private static final String[] NO_NUMBER = {"1234567890", "0000000000", "0000000001", "/", ":", "1/", ":1",
        "a", "1a", "a1", "+1", "1.0", "1-", "--1", "-"};

    public static void main(String[] args) {
        keyOfAtMost8();
        keyOfAtMost8InEveryCommand();
        numberOf1To9Decimals();
        noNumber();
        timeToLive();
        noTimeToLive();
        zeroIsNever();
        nAfterThePresent();
        withMinusGoneAtOnce();
        storedAndThenTakenAway();
        bytes();
        noreplyOrNothing();
        replyIsEmptyWithIt();
        CHECK.finish();
    }

    private static Talk talk() {
        return new Talk(CHECK);
    }

    private static Talk stocked() {
        Talk talk = talk();
        talk.due("set a 1 0 1\n5", "STORED");
        return talk;
    }

    private static void keyOfAtMost8() {
        CHECK.sentence("a KEY is a word of at most 8 characters");
        String[] keys = {"a", "ab", "abcdefg", "abcdefgh", "!", "~", "!\"#$%&'(", ")*+,-./:", "00000000", "-1",
            "noreply", "set", "flush_al"};
        for (String key : keys) {
            Talk talk = talk();
            talk.due("set " + key + " 0 0 1\n5", "STORED");
            talk.due("get " + key, "VALUE " + key + " 0 1\n5\nEND");
            talk.due("incr " + key + " 1", "6");
            talk.due("touch " + key + " 0", "TOUCHED");
            talk.due("delete " + key, "DELETED");
        }
    }

    private static void keyOfAtMost8InEveryCommand() {
        CHECK.sentence("a KEY is a word of at most 8 characters");
        String[] lines = {"set # 0 0 1\nx", "add # 0 0 1\nx", "replace # 0 0 1\nx", "append # 0 0 1\nx",
            "prepend # 0 0 1\nx", "cas # 0 0 1 1\nx", "get #", "gets #", "get a #", "get a a #", "get # a a",
            "delete #", "delete # noreply", "touch # 1", "incr # 1", "decr # 1", "set # 0 0 1 noreply\nx"};
        for (String line : lines) {
            Talk talk = stocked();
            talk.refused(FORMAT, line.replace("#", "abcdefghi"), line.replace("#", "a".repeat(60)));
            CHECK.same("[" + line + "] with a key of 8", talk.say(line.replace("#", "abcdefgh")).equals(FORMAT), false);
        }
    }

    private static void numberOf1To9Decimals() {
        CHECK.sentence("a NUMBER is a word of 1 to 9 decimals (0 .. 9)");
        String[] numbers = {"0", "9", "10", "123456789", "987654320", "999999999", "000000000", "000000009"};
        for (String number : numbers) {
            String plain = Integer.toString(Integer.parseInt(number));
            Talk talk = talk();
            talk.due("set a " + number + " 0 1\n0", "STORED");
            talk.due("get a", "VALUE a " + plain + " 1\n0\nEND");
            talk.due("cas a 0 0 1 " + number + "\n0", "EXISTS");
            talk.due("incr a " + number, plain);
            talk.due("decr a " + number, "0");
        }
    }

    private static void noNumber() {
        CHECK.sentence("a NUMBER is a word of 1 to 9 decimals (0 .. 9)");
        String[] lines = {"set a # 0 1\nx", "set a 0 0 #\nx", "add b # 0 1\nx", "replace a # 0 1\nx",
            "append a # 0 1\nx", "prepend a 0 0 #\nx", "cas a # 0 1 1\nx", "cas a 0 0 # 1\nx", "cas a 0 0 1 #\nx",
            "incr a #", "decr a #", "incr a # noreply"};
        for (String line : lines) {
            for (String word : NO_NUMBER) {
                stocked().refused(FORMAT, line.replace("#", word));
            }
            stocked().refused(FORMAT, line.replace("#", "-1"), line.replace("#", "-0"));
        }
    }

    private static void timeToLive() {
        CHECK.sentence("a TIME TO LIVE is a number, or - and a number");
        String[] lives = {"0", "1", "9", "999999999", "000000000", "000000001", "-0", "-1", "-9", "-999999999",
            "-000000000"};
        for (String life : lives) {
            Talk talk = stocked();
            talk.due("set a 0 " + life + " 1\nx", "STORED");
            talk.figure(0, life.startsWith("-") ? 0 : 1);
            talk.due("set a 0 0 1\nx", "STORED");
            talk.due("touch a " + life, "TOUCHED");
            talk.figure(0, life.startsWith("-") ? 0 : 1);
        }
    }

    private static void noTimeToLive() {
        CHECK.sentence("a TIME TO LIVE is a number, or - and a number");
        String[] lines = {"set a 0 # 1\nx", "add b 0 # 1\nx", "replace a 0 # 1\nx", "append a 0 # 1\nx",
            "prepend a 0 # 1\nx", "cas a 0 # 1 1\nx", "touch a #"};
        for (String line : lines) {
            for (String word : NO_NUMBER) {
                stocked().refused(FORMAT, line.replace("#", word), line.replace("#", "-" + word));
            }
        }
    }

    private static void zeroIsNever() {
        CHECK.sentence("0 means never gone");
        String[] zeros = {"0", "00", "000000000"};
        for (String zero : zeros) {
            Talk talk = talk();
            talk.due("set a 0 " + zero + " 1\nx", "STORED");
            talk.due("set b 0 5 1\nx", "STORED");
            talk.due("touch b " + zero, "TOUCHED");
            talk.tick(0);
            talk.figure(0, 2);
            for (int i = 0; i < 400; i++) {
                talk.tick(1000000);
            }
            talk.figure(0, 2);
            talk.figure(5, 0);
        }
    }

    private static void nAfterThePresent() {
        CHECK.sentence("n above 0 gone n after the present time");
        int[] times = {0, 1, 1000000};
        int[] lives = {1, 2, 1000000};
        for (int time : times) {
            for (int life : lives) {
                Talk talk = talk();
                talk.tick(time);
                talk.due("set a 0 " + life + " 1\nx", "STORED");
                talk.due("set b 0 0 1\nx", "STORED");
                talk.due("touch b " + life, "TOUCHED");
                talk.tick(life - 1);
                talk.figure(0, 2);
                talk.tick(1);
                talk.figure(0, 0);
            }
        }
        // touched again it is gone later, or sooner
        Talk talk = talk();
        talk.due("set a 0 3 1\nx", "STORED");
        talk.due("set b 0 3 1\nx", "STORED");
        talk.tick(2);
        talk.due("touch a 3", "TOUCHED");
        talk.tick(2);
        talk.order(0, 1);
        talk.due("touch a 1", "TOUCHED");
        talk.due("touch a 000000002", "TOUCHED");
        talk.tick(1);
        talk.figure(0, 1);
        talk.tick(1);
        talk.figure(0, 0);
        // the longest life, late: it is not gone for all the time that is left
        Talk late = talk();
        for (int i = 0; i < 240; i++) {
            late.tick(1000000);
        }
        late.due("set a 0 999999999 1\nx", "STORED");
        for (int i = 0; i < 240; i++) {
            late.tick(1000000);
        }
        late.figure(0, 1);
    }

    private static void withMinusGoneAtOnce() {
        CHECK.sentence("one with - gone at once");
        String[] lives = {"-0", "-1", "-00", "-999999999"};
        for (String life : lives) {
            Talk talk = talk();
            talk.due("set a 0 " + life + " 1\nx", "STORED");
            talk.figure(0, 0);
            talk.due("get a", "END");
            talk.due("add a 0 " + life + " 1\nx", "STORED");
            talk.due("replace a 0 " + life + " 1\nx", "NOT_STORED");
            talk.tick(5);
            talk.due("set a 0 0 1\nx", "STORED");
            talk.due("replace a 0 " + life + " 1\nx", "STORED");
            talk.due("set a 0 0 1\nx", "STORED");
            talk.due("cas a 0 " + life + " 1 5\nx", "STORED");
            talk.due("set a 0 0 1\nx", "STORED");
            talk.due("touch a " + life, "TOUCHED");
            talk.due("touch a " + life, "NOT_FOUND");
            talk.figure(5, 5);
            talk.figure(3, 7);
        }
        // append and prepend keep the item's own time
        Talk talk = stocked();
        talk.due("append a 0 -1 1\n6", "STORED");
        talk.due("prepend a 0 -1 1\n4", "STORED");
        talk.due("get a", "VALUE a 1 3\n456\nEND");
    }

    private static void storedAndThenTakenAway() {
        CHECK.sentence("(the item is stored, and then taken away)");
        Talk talk = talk();
        // it takes a page, a token, and the place of the item with its key
        talk.due("set a 0 -1 1\nx", "STORED");
        talk.slab(0, 1, 0, 8);
        talk.figure(1, 5);
        talk.figure(3, 1);
        talk.figure(5, 1);
        talk.due("set a 0 0 1\nx", "STORED");
        talk.due("set a 0 -1 40\n" + "x".repeat(40), "STORED");
        talk.slab(0, 1, 0, 8);
        talk.slab(3, 1, 0, 1);
        talk.figure(5, 2);
        // where no chunk and no page is free, an item gives way to it
        for (int i = 0; i < 5; i++) {
            talk.stored("p" + i, 62);
        }
        talk.figure(4, 0);
        talk.due("set z 0 -1 62\n" + "x".repeat(62), "STORED");
        talk.figure(4, 1);
        talk.order(3, 8, 7, 6, 5);
        talk.slab(3, 5, 4, 1);
        // and where it can't be stored, it is refused
        talk.refused("SERVER_ERROR out of memory storing object", "set z 0 -1 10\n" + "x".repeat(10));
        talk.refused("SERVER_ERROR object too large for cache", "set z 0 -1 64\n" + "x".repeat(64));
        // a touched one is no stored one: no token
        talk.due("touch p4 -1", "TOUCHED");
        talk.figure(3, 9);
        talk.figure(5, 4);
    }

    private static void bytes() {
        CHECK.sentence("BYTES is a number.");
        Talk talk = talk();
        talk.due("set a 0 0 0\n", "STORED");
        talk.due("set a 0 0 000000000\n", "STORED");
        talk.due("set a 0 0 000000003\nxyz", "STORED");
        talk.due("set a 0 0 63\n" + "x".repeat(63), "STORED");
        talk.refused("CLIENT_ERROR bad data chunk", "set a 0 0 999999999\nx", "set a 0 0 256\n", "set a 0 0 65536\n");
        talk.refused(FORMAT, "set a 0 0 -0\n", "set a 0 0 0000000000\n", "set a 0 0 4294967296\n", "set a 0 0 1x\nx");
    }

    private static void noreplyOrNothing() {
        CHECK.sentence("N is the word noreply or nothing");
        String[] words = {"Noreply", "NOREPLY", "norepl", "noreplyy", "no", "reply", "0", "1", "noreply noreply",
            "noreply x", "x noreply"};
        String[] lines = {"set a 0 0 1 #\nx", "add b 0 0 1 #\nx", "replace a 0 0 1 #\nx", "append a 0 0 1 #\nx",
            "prepend a 0 0 1 #\nx", "cas a 0 0 1 1 #\nx", "delete a #", "touch a 1 #", "flush_all #", "incr a 1 #",
            "decr a 1 #"};
        for (String line : lines) {
            for (String word : words) {
                stocked().refused(FORMAT, line.replace("#", word));
            }
            stocked().due(line.replace("#", "noreply"), "");
            stocked().due(line.replace("#", "   noreply   "), "");
            CHECK.same("[" + line + "] without it", stocked().say(line.replace("#", "")).matches("[A-Z0-9_]+"), true);
        }
    }

    private static void replyIsEmptyWithIt() {
        CHECK.sentence("with it the reply is empty, whatever it would be.");
        Talk talk = talk();
        String large = " 0 0 64 noreply\n" + "x".repeat(64);
        String[] first = {"add a 0 0 1 noreply\n1", "add a 0 0 1 noreply\n2", "replace b 0 0 1 noreply\n3",
            "append b 0 0 1 noreply\n3", "prepend b 0 0 1 noreply\n3", "cas b 0 0 1 1 noreply\n3",
            "cas a 0 0 1 9 noreply\n3", "delete b noreply", "touch b 1 noreply", "incr b 1 noreply",
            "decr b 1 noreply", "set a" + large, "add b" + large, "append a" + large};
        for (String line : first) {
            talk.due(line, "");
        }
        talk.due("gets a b", "VALUE a 0 1 1\n1\nEND");
        // what it says is done all the same
        talk.due("append a 0 0 1 noreply\n2", "");
        talk.due("prepend a 0 0 1 noreply\n3", "");
        talk.due("get a", "VALUE a 0 3\n312\nEND");
        talk.due("incr a 8 noreply", "");
        talk.due("decr a 300 noreply", "");
        talk.due("get a", "VALUE a 0 2\n20\nEND");
        talk.due("cas a 1 0 1 5 noreply\nx", "");
        talk.due("incr a 1 noreply", "");
        talk.due("decr a 1 noreply", "");
        talk.due("gets a", "VALUE a 1 1 6\nx\nEND");
        talk.due("replace a 2 0 1 noreply\ny", "");
        talk.due("touch a 3 noreply", "");
        talk.tick(2);
        talk.due("get a", "VALUE a 2 1\ny\nEND");
        talk.tick(1);
        talk.due("set a 0 0 1 noreply\ny", "");
        talk.due("delete a noreply", "");
        talk.due("get a", "END");
        talk.due("set a 0 0 1 noreply\ny", "");
        talk.due("flush_all noreply", "");
        talk.due("get a", "END");
        // no memory, with noreply
        Talk full = talk();
        for (int i = 0; i < 6; i++) {
            full.stored("p" + i, 62);
        }
        full.refused("", "set a 0 0 1 noreply\nx", "replace p0 0 0 1 noreply\nx");
    }
}
