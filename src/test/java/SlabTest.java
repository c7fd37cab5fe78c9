/** Promise 7: slab, and how pages become those of a class. */
public final class SlabTest {
    private static final Check CHECK = new Check("SlabTest");

    public static void main(String[] args) {
        sizesAndClasses();
        pagesStayWithTheirClass();
        wrongArguments();
        CHECK.finish();
    }

    private static void sizesAndClasses() {
        int[] sizes = {1, 8, 9, 16, 17, 32, 33, 64};
        int[] chunks = {8, 4, 2, 1};
        for (int i = 0; i < sizes.length; i++) {
            Talk talk = new Talk(CHECK);
            talk.stored("k", sizes[i] - 1);
            for (int c = 0; c < 4; c++) {
                if (c == i / 2) {
                    talk.slab(c, 1, 1, chunks[c] - 1);
                } else {
                    talk.slab(c, 0, 0, 0);
                }
            }
            talk.figure(1, 5);
        }
        // the key counts, too
        Talk talk = new Talk(CHECK);
        talk.stored("abcdefgh", 0);
        talk.slab(0, 1, 1, 7);
        talk.stored("abcdefgh", 1);
        talk.slab(0, 1, 0, 8);
        talk.slab(1, 1, 1, 3);
    }

    private static void pagesStayWithTheirClass() {
        Talk talk = new Talk(CHECK);
        for (int i = 0; i < 9; i++) {
            talk.stored("a" + i, 1);
        }
        talk.slab(0, 2, 9, 7);
        talk.stored("b", 20);
        talk.stored("c", 20);
        talk.stored("d", 20);
        talk.slab(2, 2, 3, 1);
        talk.figure(1, 2);
        talk.due("delete a3", "DELETED");
        talk.slab(0, 2, 8, 8);
        talk.due("flush_all", "OK");
        talk.slab(0, 2, 0, 16);
        talk.slab(2, 2, 0, 4);
        talk.figure(1, 2);
        talk.stored("a", 1);
        talk.slab(0, 2, 1, 15);
        talk.figure(1, 2);
    }

    private static void wrongArguments() {
        Talk talk = new Talk(CHECK);
        talk.stored("a", 1);
        int[][] wrong = {{-1, 0}, {4, 0}, {0, -1}, {0, 3}, {4, 3}, {-1, -1},
            {Integer.MIN_VALUE, 1}, {Integer.MAX_VALUE, 1}, {3, Integer.MIN_VALUE},
            {3, Integer.MAX_VALUE}};
        for (int[] pair : wrong) {
            CHECK.illegal("slab(" + pair[0] + ", " + pair[1] + ")",
                () -> talk.pantry.slab(pair[0], pair[1]));
        }
        talk.slab(0, 1, 1, 7);
    }
}
