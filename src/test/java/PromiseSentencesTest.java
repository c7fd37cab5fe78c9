/** Promises 1 and 5 to 9, and how long an object is used: a test for each sentence with a boundary. */
public final class PromiseSentencesTest {
    private static final Check CHECK = new Check("PromiseSentencesTest");
    private static final int LEAST = Integer.MIN_VALUE;
    private static final int MOST = Integer.MAX_VALUE;
    private static final int MOST_CALLS = 512;

    public static void main(String[] args) {
        newObject();
        noSuchCharacter();
        ticks();
        noSuchTick();
        slabs();
        noSuchSlab();
        noSuchClass();
        noSuchItem();
        figures();
        noSuchFigure();
        callsOfOneObject();
        laterCallsEnd();
        CHECK.finish();
    }

    private static Talk talk() {
        return new Talk(CHECK);
    }

    private static String tick(SlabPantry pantry, int n) {
        return Check.outcome(() -> {
            pantry.tick(n);
            return 0;
        });
    }

    private static void newObject() {
        CHECK.sentence("All pages are free, no items.");
        CHECK.same("state", talk().state(), "0 6 0 0 0 0 0 0 0 | 0 0:| 0 0:| 0 0:| 0 0:");
        Talk used = talk();
        used.stored("a", 1);
        used.tick(3);
        CHECK.same("state beside a used one", talk().state(), "0 6 0 0 0 0 0 0 0 | 0 0:| 0 0:| 0 0:| 0 0:");
    }

    private static void noCharacters(SlabPantry pantry, int... places) {
        for (int i : places) {
            CHECK.outOfBounds("reply(" + i + ")", () -> pantry.reply(i));
        }
    }

    private static void noSuchCharacter() {
        CHECK.sentence("Character i of the reply. Index out of bounds: there is none.");
        Talk talk = talk();
        noCharacters(talk.pantry, 0, -1, 1, LEAST, MOST);
        talk.write("flush_all");
        talk.sent(2);
        talk.character(0, 'O');
        talk.character(1, 'K');
        noCharacters(talk.pantry, 2, 3, -1, -2, LEAST, MOST);
        // a longer one, and behind it an empty and a shorter one
        talk.write("hello you");
        talk.sent(5);
        talk.character(4, 'R');
        noCharacters(talk.pantry, 5, -1);
        talk.write("flush_all noreply");
        talk.sent(0);
        noCharacters(talk.pantry, 0, 1, 4, -1);
        talk.write("get a");
        talk.sent(3);
        noCharacters(talk.pantry, 3, 4);
        // the reply stays through all other calls
        talk.write("flush_all");
        talk.wiped(9);
        talk.tick(1);
        CHECK.same("reply", talk.reply(), "END");
    }

    private static void ticks() {
        CHECK.sentence("So many units of time pass.");
        Talk talk = talk();
        int[] steps = {0, 1, 0, 999999, 1000000};
        int[] times = {0, 1, 1, 1000000, 2000000};
        for (int i = 0; i < steps.length; i++) {
            CHECK.same("tick(" + steps[i] + ")", tick(talk.pantry, steps[i]), "0");
            talk.figure(2, times[i]);
        }
        // all the time that there can be
        Talk all = talk();
        for (int i = 0; i < MOST_CALLS - 1; i++) {
            all.tick(1000000);
        }
        all.figure(2, 511000000);
    }

    private static void noSuchTick() {
        CHECK.sentence("Illegal argument: n is not 0 .. 1000000.");
        Talk talk = talk();
        talk.due("set a 0 1 1\nx", "STORED");
        String before = talk.state();
        int[] wrong = {-1, -1000000, 1000001, 2000000, LEAST, MOST};
        for (int n : wrong) {
            CHECK.same("tick(" + n + ")", tick(talk.pantry, n), "throws.IllegalArgumentException");
            CHECK.same("state behind tick(" + n + ")", talk.state(), before);
        }
        CHECK.same("tick(1000000)", tick(talk.pantry, 1000000), "0");
        talk.figure(0, 0);
    }

    private static void slabs() {
        CHECK.sentence("Of class c: what = 0: its pages, 1: its items, 2: its free chunks.");
        Talk talk = talk();
        int[] chunks = {8, 4, 2, 1};
        int[] lengths = {1, 10, 20, 40};
        for (int c = 0; c < 4; c++) {
            talk.slab(c, 0, 0, 0);
            talk.stored("a" + c, lengths[c]);
            talk.slab(c, 1, 1, chunks[c] - 1);
            talk.due("delete a" + c, "DELETED");
            talk.slab(c, 1, 0, chunks[c]);
        }
        Talk full = talk();
        for (int i = 0; i < 49; i++) {
            full.stored("k" + i, 1);
        }
        full.slab(0, 6, 48, 0);
        full.due("flush_all", "OK");
        full.slab(0, 6, 0, 48);
    }

    private static void noSuchSlab() {
        CHECK.sentence("Illegal argument: c is not 0 .. 3, or what not 0 .. 2.");
        Talk talk = talk();
        talk.stored("a", 1);
        String before = talk.state();
        int[] numbers = {LEAST, -1, 0, 1, 2, 3, 4, MOST};
        for (int c : numbers) {
            for (int what : numbers) {
                if (c < 0 || c > 3 || what < 0 || what > 2) {
                    CHECK.illegal("slab(" + c + ", " + what + ")", () -> talk.pantry.slab(c, what));
                }
            }
        }
        CHECK.same("state", talk.state(), before);
    }

    private static void noSuchClass() {
        CHECK.sentence("Illegal argument: c is not 0 .. 3");
        Talk talk = talk();
        talk.stored("a", 1);
        talk.stored("b", 40);
        int[] classes = {LEAST, -1, 4, 5, MOST};
        int[] places = {LEAST, -1, 0, 1, MOST};
        for (int c : classes) {
            for (int k : places) {
                CHECK.illegal("order(" + c + ", " + k + ")", () -> talk.pantry.order(c, k));
            }
        }
        talk.order(0, 1);
        talk.order(3, 2);
    }

    private static void noItems(Talk talk, int c, int... places) {
        for (int k : places) {
            CHECK.outOfBounds("order(" + c + ", " + k + ")", () -> talk.pantry.order(c, k));
        }
    }

    private static void noSuchItem() {
        CHECK.sentence("index out of bounds: there is none.");
        Talk talk = talk();
        int[] lengths = {1, 10, 20, 40};
        for (int c = 0; c < 4; c++) {
            noItems(talk, c, 0, -1, 1, LEAST, MOST);
            talk.stored("a" + c, lengths[c]);
            talk.order(c, c + 1);
            noItems(talk, c, 1, 2, -1, LEAST, MOST);
        }
        // one less than there were, though the chunk is still there
        talk.stored("b", 1);
        talk.due("delete a0", "DELETED");
        talk.order(0, 5);
        talk.due("flush_all", "OK");
        for (int c = 0; c < 4; c++) {
            noItems(talk, c, 0);
        }
        Talk full = talk();
        for (int i = 0; i < 48; i++) {
            full.stored("k" + i, 1);
        }
        int[] tokens = new int[48];
        for (int k = 0; k < 48; k++) {
            tokens[k] = 48 - k;
        }
        full.order(0, tokens);
        noItems(full, 0, 48);
    }

    private static void figures() {
        CHECK.sentence("5: how many were taken away because their time had come (those gone at once, too)");
        Talk talk = talk();
        talk.due("set a 0 2 1\nx", "STORED");
        talk.due("set b 0 2 1\nx", "STORED");
        talk.tick(1);
        talk.figure(5, 0);
        talk.tick(1);
        talk.figure(5, 2);
        talk.due("set a 0 -0 1\nx", "STORED");
        talk.figure(5, 3);
        talk.due("set a 0 0 1\nx", "STORED");
        talk.due("touch a -1", "TOUCHED");
        talk.figure(5, 4);
        // others that are taken away do not count
        talk.due("set a 0 2 1\nx", "STORED");
        talk.due("set a 0 2 1\nx", "STORED");
        talk.due("delete a", "DELETED");
        talk.due("set a 0 2 1\nx", "STORED");
        talk.due("flush_all", "OK");
        talk.due("touch a -1", "NOT_FOUND");
        talk.due("set a 0 -1 64\n" + "x".repeat(64), "SERVER_ERROR object too large for cache");
        talk.tick(2);
        talk.figure(5, 4);
        talk.figure(4, 0);
    }

    private static void noSuchFigure() {
        CHECK.sentence("Illegal argument: k is none of these.");
        Talk talk = talk();
        talk.write("get a");
        for (int k = 0; k <= 8; k++) {
            talk.figure(k, k == 1 ? 6 : k == 8 ? 5 : 0);
        }
        int[] wrong = {LEAST, -1, 9, 10, 100, MOST};
        for (int k : wrong) {
            CHECK.illegal("figure(" + k + ")", () -> talk.pantry.figure(k));
        }
        talk.figure(8, 5);
    }

    private static void callsOfOneObject() {
        CHECK.sentence("An object is used for at most 512 calls after it has been made");
        // as many tokens, misses and wiped lines as 512 calls can make, the last call being answered right
        SlabPantry stored = new SlabPantry();
        for (int i = 0; i < 170; i++) {
            stored.write(Talk.packed("set a 0 "));
            stored.write(Talk.packed("0 1\nx"));
            CHECK.same("send()", stored.send(), 6);
        }
        CHECK.same("figure(3)", stored.figure(3), 170);
        CHECK.same("order(0, 0)", stored.order(0, 0), 170);
        SlabPantry missed = new SlabPantry();
        for (int i = 0; i < 255; i++) {
            missed.write(Talk.packed("get a b"));
            CHECK.same("send()", missed.send(), 3);
        }
        CHECK.same("figure(6)", missed.figure(6), 0);
        CHECK.same("figure(7)", missed.figure(7), 510);
    }

    /** What later calls answer is free; that they end, and throw nothing else, is LANGUAGE.md's rule 6. */
    private static void laterCallsEnd() {
        CHECK.sentence("what later calls answer is free.");
        SlabPantry pantry = new SlabPantry();
        String free = "";
        String[] lines = {"set a 999999999 999999999 1\n9", "incr a 999999999", "gets a a a", "touch a 5", "decr a 3",
            "set b 0 -1 1\n9", "append a 0 0 1\n1", "flush_all"};
        for (int i = 0; i < 5000 && free.isEmpty(); i++) {
            String line = lines[i % lines.length];
            free = unexpected(pantry, line);
        }
        CHECK.same("what is thrown late", free, "");
    }

    private static String unexpected(SlabPantry pantry, String line) {
        String outcomes = tick(pantry, 1000000) + " " + Check.outcome(() -> {
            for (int i = 0; i < line.length(); i += 8) {
                pantry.write(Talk.packed(line.substring(i, Math.min(i + 8, line.length()))));
            }
            return pantry.send();
        }) + " " + Check.outcome(() -> pantry.figure(2)) + " " + Check.outcome(() -> pantry.slab(0, 2));
        return outcomes.contains("throws") ? outcomes : "";
    }
}
