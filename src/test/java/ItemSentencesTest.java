/** 'Terms', items and their order: a test for each sentence that names a boundary case. */
public final class ItemSentencesTest {
    private static final Check CHECK = new Check("ItemSentencesTest");

    public static void main(String[] args) {
        keysAreUnlike();
        timeIs0AtFirst();
        takenAwayInTime();
        takenAwayInEveryClass();
        tokensFrom1();
        comesToTheFront();
        CHECK.finish();
    }

    private static Talk talk() {
        return new Talk(CHECK);
    }

    private static void keysAreUnlike() {
        CHECK.sentence("No two have the same key.");
        Talk talk = talk();
        talk.due("set a 1 0 1\nx", "STORED");
        talk.due("set a 2 0 1\ny", "STORED");
        talk.figure(0, 1);
        // in another class it is the same key, too
        talk.due("set a 3 0 20\n" + "z".repeat(20), "STORED");
        talk.figure(0, 1);
        talk.due("get a", "VALUE a 3 20\n" + "z".repeat(20) + "\nEND");
        talk.due("delete a", "DELETED");
        talk.due("get a", "END");
        // one that begins another, or has other letters, is another key
        String[] keys = {"abcdefgh", "abcdefg", "a", "A", "ab", "0", "00", "bcdefgh"};
        for (String key : keys) {
            talk.due("add " + key + " 0 0 0\n", "STORED");
        }
        talk.figure(0, keys.length);
    }

    private static void timeIs0AtFirst() {
        CHECK.sentence("The TIME is 0 at first");
        Talk talk = talk();
        talk.figure(2, 0);
        talk.due("set a 0 1 1\nx", "STORED");
        talk.figure(0, 1);
        talk.tick(0);
        talk.figure(2, 0);
        talk.figure(0, 1);
        talk.tick(1);
        talk.figure(0, 0);
    }

    private static void takenAwayInTime() {
        CHECK.sentence("an item is taken away as soon as the time is that at which it is gone, or more.");
        int[] lives = {1, 2, 5, 1000000};
        for (int life : lives) {
            Talk talk = talk();
            talk.tick(7);
            talk.due("set a 0 " + life + " 1\nx", "STORED");
            talk.tick(life - 1);
            talk.figure(0, 1);
            talk.figure(5, 0);
            talk.due("get a", "VALUE a 0 1\nx\nEND");
            // at its very time, without any command that asks for it
            talk.tick(1);
            talk.figure(0, 0);
            talk.figure(5, 1);
            talk.slab(0, 1, 0, 8);
            talk.order(0);
            talk.due("get a", "END");
            talk.tick(1);
            talk.figure(5, 1);
        }
        // the time goes past that one
        Talk talk = talk();
        talk.due("set a 0 3 1\nx", "STORED");
        talk.tick(1000000);
        talk.figure(0, 0);
        talk.figure(5, 1);
    }

    private static void takenAwayInEveryClass() {
        CHECK.sentence("an item is taken away as soon as the time is that at which it is gone");
        Talk talk = talk();
        int[] sizes = {1, 2, 3, 10, 11, 20, 21, 40, 41};
        for (int i = 0; i < sizes.length; i++) {
            int life = i % 2 == 0 ? 4 : 5;
            talk.write("set k" + i + " 0 " + life + " " + sizes[i] + "\n" + "x".repeat(sizes[i]));
            talk.sent(6);
        }
        talk.tick(4);
        talk.figure(5, 5);
        talk.order(0, 2);
        talk.order(1, 4);
        talk.order(2, 6);
        talk.order(3, 8);
        talk.tick(1);
        talk.figure(5, 9);
        for (int c = 0; c < 4; c++) {
            talk.order(c);
        }
        talk.figure(4, 0);
    }

    private static void tokensFrom1() {
        CHECK.sentence("Tokens are 1, 2, .. in the order in which items are STORED.");
        Talk talk = talk();
        talk.figure(3, 0);
        talk.due("set a 0 0 1\n1", "STORED");
        talk.due("gets a", "VALUE a 0 1 1\n1\nEND");
        talk.due("set b 0 0 1\n1", "STORED");
        talk.due("gets a b", "VALUE a 0 1 1\n1\nVALUE b 0 1 2\n1\nEND");
        // none for what is not stored, or only found or touched
        talk.due("add a 0 0 1\n1", "NOT_STORED");
        talk.due("replace c 0 0 1\n1", "NOT_STORED");
        talk.due("append c 0 0 1\n1", "NOT_STORED");
        talk.due("cas a 0 0 1 2\n1", "EXISTS");
        talk.due("touch a 0", "TOUCHED");
        talk.due("set a 0 0 64\n" + "x".repeat(64), "SERVER_ERROR object too large for cache");
        talk.figure(3, 2);
        // every storing gives the next one, also that of an item that is gone at once
        talk.due("incr a 0", "1");
        talk.due("append a 0 0 0\n", "STORED");
        talk.due("set c 0 -1 0\n", "STORED");
        talk.due("set b 0 0 1 noreply\n1", "");
        talk.due("gets a b", "VALUE a 0 1 4\n1\nVALUE b 0 1 6\n1\nEND");
        // those that were taken away are not given again
        talk.due("flush_all", "OK");
        talk.due("set a 0 0 1\n1", "STORED");
        talk.due("gets a", "VALUE a 0 1 7\n1\nEND");
        talk.figure(3, 7);
    }

    private static Talk four() {
        Talk talk = talk();
        for (int i = 1; i <= 4; i++) {
            talk.due("set k" + i + " 0 0 1\n" + i, "STORED");
        }
        return talk;
    }

    private static void comesToTheFront() {
        CHECK.sentence("one that is stored, found by get or gets, or touched comes to its front.");
        String[] ways = {"get k#", "gets k#", "touch k# 0", "touch k# 9 noreply", "get zz k#"};
        for (String way : ways) {
            Talk talk = four();
            // the first, the last, one between, and the last again
            talk.say(way.replace('#', '4'));
            talk.order(0, 4, 3, 2, 1);
            talk.say(way.replace('#', '1'));
            talk.order(0, 1, 4, 3, 2);
            talk.say(way.replace('#', '3'));
            talk.order(0, 3, 1, 4, 2);
            talk.say(way.replace('#', '2'));
            talk.order(0, 2, 3, 1, 4);
        }
        String[] storing = {"set k# 0 0 1\n5", "replace k# 0 0 1\n5", "append k# 0 0 1\n5",
            "prepend k# 0 0 1\n5", "incr k# 1", "decr k# 1", "cas k# 0 0 1 #\n5"};
        for (String way : storing) {
            Talk talk = four();
            talk.say(way.replace('#', '1'));
            talk.order(0, 5, 4, 3, 2);
            talk.say(way.replace('#', '3'));
            talk.order(0, 6, 5, 4, 2);
        }
        // the only one stays where it is, with several keys the last one is in front
        Talk one = talk();
        one.stored("a", 1);
        one.say("get a a");
        one.order(0, 1);
        Talk talk = four();
        talk.say("get k1 k4 k2");
        talk.order(0, 2, 4, 1, 3);
        // what is not found, or refused, moves nothing
        talk.due("get k9", "END");
        talk.due("add k3 0 0 1\n5", "NOT_STORED");
        talk.due("cas k3 0 0 1 9\n5", "EXISTS");
        talk.due("touch k9 0", "NOT_FOUND");
        talk.order(0, 2, 4, 1, 3);
    }
}
