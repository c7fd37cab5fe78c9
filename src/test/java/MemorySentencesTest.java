/** 'Terms', memory and how an item is stored: a test for each sentence that names a boundary case. */
public final class MemorySentencesTest {
    private static final Check CHECK = new Check("MemorySentencesTest");
    private static final String LARGE = "SERVER_ERROR object too large for cache";
    private static final String NO_MEMORY = "SERVER_ERROR out of memory storing object";
    private static final int[] CHARACTERS = {8, 16, 32, 64};
    private static final int[] CHUNKS = {8, 4, 2, 1};

    public static void main(String[] args) {
        sixPages();
        pagesForEver();
        chunksOfAPage();
        size();
        firstClassThatFits();
        chunkForItself();
        above64();
        above64OfChanges();
        noPage();
        noPageOfChanges();
        largeBeforeNoPage();
        nothingChanges();
        sameKeyIsTakenAway();
        freePageBecomesOneOfIts();
        lastOneIsEvicted();
        evictedOnlyOfItsClass();
        newToken();
        CHECK.finish();
    }

    private static Talk talk() {
        return new Talk(CHECK);
    }

    /** One item, of two characters in its key, on each of so many pages. */
    private static Talk full(int pages) {
        Talk talk = talk();
        for (int i = 0; i < pages; i++) {
            talk.stored("p" + i, 62);
        }
        return talk;
    }

    private static String data(int length) {
        return length + "\n" + "y".repeat(length);
    }

    private static void sixPages() {
        CHECK.sentence("6 PAGES, all free at first.");
        Talk talk = talk();
        talk.figure(1, 6);
        for (int c = 0; c < 4; c++) {
            talk.slab(c, 0, 0, 0);
        }
        for (int i = 1; i <= 6; i++) {
            talk.stored("p" + i, 62);
            talk.figure(1, 6 - i);
            talk.slab(3, i, i, 0);
        }
        talk.figure(4, 0);
        talk.stored("p7", 62);
        talk.figure(1, 0);
        talk.slab(3, 6, 6, 0);
        talk.figure(4, 1);
    }

    private static void pagesForEver() {
        CHECK.sentence("A page that is not free belongs to one of the CLASSES 0 .. 3, for ever");
        String[] ends = {"delete a", "flush_all", "touch a -1"};
        for (String end : ends) {
            Talk talk = talk();
            talk.stored("a", 1);
            talk.say(end);
            talk.slab(0, 1, 0, 8);
            talk.figure(1, 5);
        }
        Talk talk = talk();
        talk.due("set a 0 1 1\nx", "STORED");
        talk.tick(1);
        talk.slab(0, 1, 0, 8);
        talk.figure(1, 5);
        // all pages of one class, all its items away: no other class has one
        Talk full = full(6);
        full.due("flush_all", "OK");
        full.slab(3, 6, 0, 6);
        full.due("set a 0 0 1\nx", NO_MEMORY);
        full.due("set a 0 0 " + data(31), NO_MEMORY);
        full.due("set a 0 0 " + data(32), "STORED");
        full.slab(3, 6, 1, 5);
    }

    private static void chunksOfAPage() {
        CHECK.sentence("is 8, 4, 2, 1 CHUNKS of 8, 16, 32, 64 characters.");
        for (int c = 0; c < 4; c++) {
            Talk talk = talk();
            for (int i = 0; i < CHUNKS[c]; i++) {
                talk.stored("k" + i, CHARACTERS[c] - 2);
                talk.slab(c, 1, i + 1, CHUNKS[c] - i - 1);
            }
            talk.stored("more", CHARACTERS[c] - 4);
            talk.slab(c, 2, CHUNKS[c] + 1, CHUNKS[c] - 1);
            talk.figure(1, 4);
        }
    }

    private static void size() {
        CHECK.sentence("The SIZE of an item is the length of its key and of its data");
        // long flags and a long time count nothing
        Talk talk = talk();
        talk.due("set abcdefgh 999999999 999999999 0\n", "STORED");
        talk.slab(0, 1, 1, 7);
        talk.due("set abcdefgh 0 0 1\nx", "STORED");
        talk.slab(0, 1, 0, 8);
        talk.slab(1, 1, 1, 3);
        talk.due("set a 0 0 7\n\n \n \n \n", "STORED");
        talk.slab(0, 1, 1, 7);
        talk.due("set ab 0 0 7\n\n \n \n \n", "STORED");
        talk.slab(1, 1, 2, 2);
    }

    private static void firstClassThatFits() {
        CHECK.sentence("its class is the first one whose chunks have so many characters.");
        int[] sizes = {1, 2, 7, 8, 9, 15, 16, 17, 31, 32, 33, 63, 64};
        int[] classes = {0, 0, 0, 0, 1, 1, 1, 2, 2, 2, 3, 3, 3};
        for (int i = 0; i < sizes.length; i++) {
            Talk talk = talk();
            talk.stored("k", sizes[i] - 1);
            for (int c = 0; c < 4; c++) {
                boolean its = c == classes[i];
                talk.slab(c, its ? 1 : 0, its ? 1 : 0, its ? CHUNKS[c] - 1 : 0);
            }
        }
        // a free chunk of a larger class is not taken instead
        Talk talk = full(6);
        talk.due("delete p0", "DELETED");
        talk.due("set a 0 0 " + data(20), NO_MEMORY);
        talk.slab(3, 6, 5, 1);
    }

    private static void chunkForItself() {
        CHECK.sentence("An item has a chunk of its class for itself.");
        Talk talk = talk();
        talk.due("set a 0 0 0\n", "STORED");
        talk.due("set b 0 0 0\n", "STORED");
        talk.slab(0, 1, 2, 6);
        // what one holds is not touched by what the next one gets
        talk.due("set c 0 0 7\nccccccc", "STORED");
        talk.due("set d 0 0 7\nddddddd", "STORED");
        talk.due("delete c", "DELETED");
        talk.due("set e 0 0 1\ne", "STORED");
        talk.due("get a d e", "VALUE a 0 0\n\nVALUE d 0 7\nddddddd\nVALUE e 0 1\ne\nEND");
    }

    private static void above64() {
        CHECK.sentence("if its size is above 64, the reply is \"SERVER_ERROR object too large for cache\"");
        Talk talk = talk();
        talk.due("set a 0 0 " + data(63), "STORED");
        talk.refused(LARGE, "set a 0 0 " + data(64), "set b 0 0 " + data(64), "set abcdefgh 0 0 " + data(57));
        talk.due("set abcdefgh 0 0 " + data(56), "STORED");
        Talk likewise = talk();
        likewise.due("add b 0 0 " + data(63), "STORED");
        likewise.refused(LARGE, "add c 0 0 " + data(64), "replace b 0 0 " + data(64),
            "cas b 0 0 64 1\n" + "y".repeat(64));
        likewise.due("replace b 0 0 " + data(63), "STORED");
        // as large as a line can tell, and one that would be gone at once
        Talk other = talk();
        other.refused(LARGE, "set a 0 0 " + data(126), "set a 0 -1 " + data(64));
    }

    private static void above64OfChanges() {
        CHECK.sentence("if its size is above 64, the reply is \"SERVER_ERROR object too large for cache\"");
        Talk above = talk();
        above.stored("a", 40);
        above.refused(LARGE, "append a 0 0 " + data(24), "prepend a 0 0 " + data(24));
        Talk talk = talk();
        talk.stored("a", 40);
        talk.due("append a 0 0 " + data(22), "STORED");
        talk.due("prepend a 0 0 1\nz", "STORED");
        talk.refused(LARGE, "append a 0 0 1\nz", "prepend a 0 0 1\nz", "append a 0 0 " + data(123));
        talk.due("append a 0 0 0\n", "STORED");
        talk.due("get a", "VALUE a 0 63\nz" + "x".repeat(40) + "y".repeat(22) + "\nEND");
    }

    private static void noPage() {
        CHECK.sentence("else, if its class has no page and no page is free:"
            + " \"SERVER_ERROR out of memory storing object\"");
        int[] sizes = {1, 8, 9, 16, 17, 32};
        for (int size : sizes) {
            Talk five = full(5);
            five.due("set a 0 0 " + data(size - 1), "STORED");
            five.figure(1, 0);
            Talk six = full(6);
            six.refused(NO_MEMORY, "set a 0 0 " + data(size - 1));
        }
        // class 3 without a page
        Talk talk = talk();
        for (int i = 0; i < 12; i++) {
            talk.stored("k" + i, 28);
        }
        talk.due("set a 0 0 " + data(32), NO_MEMORY);
        talk.due("set a 0 0 " + data(63), NO_MEMORY);
        // a class that has a page goes on, full or not
        talk.stored("a", 28);
        talk.slab(2, 6, 12, 0);
        talk.figure(4, 1);
    }

    private static void noPageOfChanges() {
        CHECK.sentence("else, if its class has no page and no page is free");
        Talk talk = talk();
        talk.due("set abcdefg 5 0 1\n9", "STORED");
        for (int i = 0; i < 5; i++) {
            talk.stored("p" + i, 62);
        }
        talk.refused(NO_MEMORY, "incr abcdefg 1", "append abcdefg 0 0 1\n1", "prepend abcdefg 0 0 1\n1",
            "replace abcdefg 0 0 2\n11", "cas abcdefg 0 0 2 1\n11");
        talk.due("gets abcdefg", "VALUE abcdefg 5 1 1\n9\nEND");
        talk.due("decr abcdefg 1", "8");
        talk.due("incr abcdefg 1", "9");
        // the key is there in another class: it stays
        Talk six = full(6);
        six.refused(NO_MEMORY, "set p0 0 0 1\nx", "replace p0 0 -1 1\nx");
        six.order(3, 6, 5, 4, 3, 2, 1);
    }

    private static void largeBeforeNoPage() {
        CHECK.sentence("if its size is above 64, the reply is \"SERVER_ERROR object too large for cache\"; else");
        Talk talk = talk();
        for (int i = 0; i < 48; i++) {
            talk.stored("k" + i, 1);
        }
        talk.due("set z 0 0 " + data(64), LARGE);
        talk.due("set z 0 0 " + data(63), NO_MEMORY);
        talk.due("append k9 0 0 " + data(62), LARGE);
        talk.due("append k9 0 0 " + data(61), NO_MEMORY);
    }

    private static void nothingChanges() {
        CHECK.sentence("in both cases nothing changes.");
        String[] verbs = {"set", "replace", "append", "prepend"};
        for (String verb : verbs) {
            Talk talk = talk();
            talk.due("set a 7 9 1\n1", "STORED");
            for (int i = 0; i < 5; i++) {
                talk.stored("p" + i, 62);
            }
            talk.refused(LARGE, verb + " a 1 0 " + data(64));
            talk.refused(NO_MEMORY, verb + " a 1 0 " + data(10));
            talk.due("gets a", "VALUE a 7 1 1\n1\nEND");
            // its time is the old one, too
            talk.tick(8);
            talk.figure(0, 6);
            talk.tick(1);
            talk.figure(0, 5);
        }
        // a key that was not there is not there now
        Talk other = full(6);
        other.refused(LARGE, "add a 0 0 " + data(64));
        other.refused(NO_MEMORY, "add a 0 0 1\nx", "set a 0 0 1\nx");
        other.due("get a", "END");
    }

    private static void sameKeyIsTakenAway() {
        CHECK.sentence("Otherwise the item with this key, if there is one, is taken away");
        // its chunk is free then: nothing else gives way, no page is taken
        Talk six = full(6);
        six.stored("p0", 60);
        six.order(3, 7, 6, 5, 4, 3, 2);
        six.stored("p3", 62);
        six.order(3, 8, 7, 6, 5, 3, 2);
        six.figure(4, 0);
        Talk one = full(1);
        one.stored("p0", 62);
        one.slab(3, 1, 1, 0);
        one.figure(1, 5);
        // it counts neither as evicted nor as gone
        one.due("set p0 0 5 " + data(62), "STORED");
        one.due("set p0 0 0 " + data(62), "STORED");
        one.tick(5);
        one.figure(0, 1);
        one.figure(4, 0);
        one.figure(5, 0);
        // in another class its chunk is free there, and helps nothing here
        Talk talk = talk();
        talk.stored("a", 1);
        for (int i = 0; i < 5; i++) {
            talk.stored("p" + i, 62);
        }
        talk.stored("a", 62);
        talk.slab(0, 1, 0, 8);
        talk.order(3, 7, 6, 5, 4, 3);
        talk.figure(4, 1);
    }

    private static void freePageBecomesOneOfIts() {
        CHECK.sentence("if then no chunk of the class is free, a free page, if there is one, becomes one of its pages");
        for (int c = 0; c < 4; c++) {
            Talk talk = talk();
            for (int i = 0; i < CHUNKS[c]; i++) {
                talk.stored("k" + i, CHARACTERS[c] - 2);
            }
            talk.figure(1, 5);
            talk.due("delete k0", "DELETED");
            talk.stored("a", CHARACTERS[c] - 1);
            talk.slab(c, 1, CHUNKS[c], 0);
            talk.figure(1, 5);
            talk.stored("b", CHARACTERS[c] - 1);
            talk.slab(c, 2, CHUNKS[c] + 1, CHUNKS[c] - 1);
            talk.figure(1, 4);
            talk.figure(4, 0);
        }
        // the last free page is one, too
        Talk five = full(5);
        five.stored("a", 62);
        five.slab(3, 6, 6, 0);
        five.figure(4, 0);
    }

    private static void lastOneIsEvicted() {
        CHECK.sentence("or else the last item in the order of the class is taken away (EVICTED).");
        Talk talk = full(6);
        talk.say("get p0");
        talk.stored("q", 62);
        talk.order(3, 7, 1, 6, 5, 4, 3);
        talk.figure(4, 1);
        talk.figure(5, 0);
        talk.due("get p1", "END");
        talk.due("touch p2 0", "TOUCHED");
        talk.stored("r", 40);
        talk.order(3, 8, 3, 7, 1, 6, 5);
        talk.figure(4, 2);
        // a class of one chunk
        Talk one = talk();
        one.stored("a", 62);
        for (int i = 0; i < 10; i++) {
            one.stored("k" + i, 30);
        }
        one.stored("b", 62);
        one.order(3, 12);
        one.due("get a", "END");
        one.figure(4, 1);
        // also for an item that is gone at once
        one.due("set c 0 -1 " + data(62), "STORED");
        one.order(3);
        one.figure(4, 2);
        one.figure(5, 1);
    }

    private static void evictedOnlyOfItsClass() {
        CHECK.sentence("the last item in the order of the class is taken away (EVICTED)");
        Talk talk = talk();
        talk.stored("s", 1);
        talk.stored("t", 10);
        talk.stored("u", 20);
        for (int i = 0; i < 6; i++) {
            talk.stored("p" + i, 62);
        }
        talk.order(0, 1);
        talk.order(1, 2);
        talk.order(2, 3);
        talk.order(3, 9, 8, 7);
        talk.figure(4, 3);
        // one that grows into a full class: the last one there gives way
        talk.due("append s 0 0 " + data(40), "STORED");
        talk.order(0);
        talk.order(3, 10, 9, 8);
        talk.figure(4, 4);
        // the smallest class, all pages its own
        Talk small = talk();
        for (int i = 0; i < 50; i++) {
            small.stored("k" + i, 2);
        }
        small.slab(0, 6, 48, 0);
        small.figure(4, 2);
        small.due("get k0 k1 k2", "VALUE k2 0 2\nxx\nEND");
    }

    private static void newToken() {
        CHECK.sentence("The item gets a new token, and a chunk.");
        Talk talk = talk();
        talk.due("set a 0 0 1\n1", "STORED");
        String[] storing = {"set a 0 0 1\n1", "replace a 0 0 1\n1", "append a 0 0 0\n", "prepend a 0 0 0\n",
            "incr a 0 noreply", "decr a 0 noreply"};
        for (int i = 0; i < storing.length; i++) {
            talk.say(storing[i]);
            talk.order(0, i + 2);
            talk.slab(0, 1, 1, 7);
        }
    }
}
