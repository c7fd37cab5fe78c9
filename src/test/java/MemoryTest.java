/** Promise 4: where items are stored, what gives way, and what is refused. */
public final class MemoryTest {
    private static final Check CHECK = new Check("MemoryTest");
    private static final String LARGE = "SERVER_ERROR object too large for cache";
    private static final String NO_MEMORY = "SERVER_ERROR out of memory storing object";

    public static void main(String[] args) {
        tooLarge();
        outOfMemory();
        leastRecentlyUsedGivesWay();
        freeChunkBeforePage();
        ownChunkIsFreed();
        changeOfClass();
        incrMayFail();
        fullOfSmallItems();
        CHECK.finish();
    }

    /** Takes pages for items of one chunk each: keys p0, p1, .. */
    private static void fill(Talk talk, int pages) {
        for (int i = 0; i < pages; i++) {
            talk.stored("p" + i, 62);
        }
    }

    private static void tooLarge() {
        Talk talk = new Talk(CHECK);
        talk.stored("a", 63);
        talk.due("set a 0 0 64\n" + "y".repeat(64), LARGE);
        talk.due("set abcdefgh 0 0 57\n" + "y".repeat(57), LARGE);
        talk.due("set abcdefgh 0 0 56\n" + "y".repeat(56), "STORED");
        talk.due("set b 0 0 120\n" + "y".repeat(120), LARGE);
        talk.due("get a", "VALUE a 0 63\n" + "x".repeat(63) + "\nEND");
        talk.figure(3, 2);
        talk.figure(1, 4);
        // too large is said before that there is no memory
        Talk full = new Talk(CHECK);
        for (int i = 0; i < 48; i++) {
            full.stored("k" + i, 1);
        }
        full.due("set z 0 0 64\n" + "y".repeat(64), LARGE);
        full.due("set z 0 0 63\n" + "y".repeat(63), NO_MEMORY);
    }

    private static void outOfMemory() {
        Talk talk = new Talk(CHECK);
        fill(talk, 6);
        talk.figure(1, 0);
        talk.due("set a 0 0 1\nx", NO_MEMORY);
        talk.due("set a 0 0 31\n" + "y".repeat(31), NO_MEMORY);
        talk.due("set p0 0 0 1\nx", NO_MEMORY);
        talk.due("add a 0 0 12\nabcdefghijkl", NO_MEMORY);
        talk.due("replace p0 0 0 1\nx", NO_MEMORY);
        talk.due("cas p0 0 0 1 1\nx", NO_MEMORY);
        talk.due("cas p0 0 0 1 2\nx", "EXISTS");
        talk.figure(0, 6);
        talk.figure(3, 6);
        talk.order(3, 6, 5, 4, 3, 2, 1);
        // pages are not given back, so an empty pantry has none either
        talk.due("flush_all", "OK");
        talk.due("set a 0 0 1\nx", NO_MEMORY);
        talk.stored("a", 50);
    }

    private static void leastRecentlyUsedGivesWay() {
        Talk talk = new Talk(CHECK);
        fill(talk, 6);
        talk.due("touch p0 0", "TOUCHED");
        talk.say("get p1");
        talk.stored("q0", 50);
        talk.figure(4, 1);
        talk.order(3, 7, 2, 1, 6, 5, 4);
        talk.due("get p2", "END");
        talk.stored("q1", 50);
        talk.stored("q2", 50);
        talk.figure(4, 3);
        talk.order(3, 9, 8, 7, 2, 1, 6);
        talk.figure(0, 6);
        talk.slab(3, 6, 6, 0);
        // one of another class never gives way
        Talk mixed = new Talk(CHECK);
        mixed.stored("s", 1);
        fill(mixed, 5);
        mixed.stored("p5", 62);
        mixed.order(0, 1);
        mixed.order(3, 7, 6, 5, 4, 3);
        mixed.figure(4, 1);
    }

    private static void freeChunkBeforePage() {
        Talk talk = new Talk(CHECK);
        for (int i = 0; i < 4; i++) {
            talk.stored("a" + i, 10);
        }
        talk.slab(1, 1, 4, 0);
        talk.due("delete a2", "DELETED");
        talk.stored("b", 10);
        talk.slab(1, 1, 4, 0);
        talk.stored("c", 10);
        talk.slab(1, 2, 5, 3);
        talk.figure(4, 0);
        talk.figure(1, 4);
    }

    private static void ownChunkIsFreed() {
        Talk talk = new Talk(CHECK);
        fill(talk, 6);
        talk.stored("p3", 40);
        talk.figure(4, 0);
        talk.order(3, 7, 6, 5, 3, 2, 1);
        talk.due("append p0 0 0 0\n", "STORED");
        talk.figure(4, 0);
        talk.order(3, 8, 7, 6, 5, 3, 2);
        // with a free page left it does not take that one either
        Talk roomy = new Talk(CHECK);
        fill(roomy, 1);
        roomy.stored("p0", 62);
        roomy.slab(3, 1, 1, 0);
        roomy.figure(1, 5);
    }

    private static void changeOfClass() {
        Talk talk = new Talk(CHECK);
        talk.stored("a", 7);
        talk.due("append a 0 0 1\ny", "STORED");
        talk.slab(0, 1, 0, 8);
        talk.slab(1, 1, 1, 3);
        talk.due("prepend a 0 0 8\nzzzzzzzz", "STORED");
        talk.slab(1, 1, 0, 4);
        talk.slab(2, 1, 1, 1);
        talk.due("get a", "VALUE a 0 16\nzzzzzzzzxxxxxxxy\nEND");
        talk.due("set a 0 0 0\n", "STORED");
        talk.slab(2, 1, 0, 2);
        talk.slab(0, 1, 1, 7);
        // the item that gives way is the last one of the new class
        fill(talk, 3);
        talk.stored("b", 40);
        talk.figure(4, 1);
        talk.stored("a", 40);
        talk.figure(4, 2);
        talk.slab(0, 1, 0, 8);
        talk.order(3, 9, 8, 7);
    }

    private static void incrMayFail() {
        Talk talk = new Talk(CHECK);
        talk.due("set abcdefg 3 0 1\n9", "STORED");
        fill(talk, 5);
        talk.due("incr abcdefg 1", NO_MEMORY);
        talk.due("incr abcdefg 1 noreply", "");
        talk.due("append abcdefg 0 0 1\n1", NO_MEMORY);
        talk.due("gets abcdefg", "VALUE abcdefg 3 1 1\n9\nEND");
        talk.due("decr abcdefg 1", "8");
        talk.due("gets abcdefg", "VALUE abcdefg 3 1 7\n8\nEND");
        talk.figure(3, 7);
    }

    private static void fullOfSmallItems() {
        Talk talk = new Talk(CHECK);
        int[] tokens = new int[48];
        for (int i = 0; i < 50; i++) {
            talk.stored("k" + i, 2);
        }
        for (int k = 0; k < 48; k++) {
            tokens[k] = 50 - k;
        }
        talk.order(0, tokens);
        talk.slab(0, 6, 48, 0);
        talk.figure(0, 48);
        talk.figure(4, 2);
        talk.due("get k0 k1 k2", "VALUE k2 0 2\nxx\nEND");
    }
}
