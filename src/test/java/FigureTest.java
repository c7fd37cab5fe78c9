/** Promise 9: figure. */
public final class FigureTest {
    private static final Check CHECK = new Check("FigureTest");

    public static void main(String[] args) {
        everyFigure();
        onlyGetAndGetsCountWhatTheyFind();
        tokensAreGivenToWhatIsStored();
        wrongArguments();
        CHECK.finish();
    }

    private static void figures(Talk talk, int... due) {
        for (int k = 0; k < due.length; k++) {
            talk.figure(k, due[k]);
        }
    }

    private static void everyFigure() {
        Talk talk = new Talk(CHECK);
        figures(talk, 0, 6, 0, 0, 0, 0, 0, 0, 0);
        talk.stored("a", 50);
        figures(talk, 1, 5, 0, 1, 0, 0, 0, 0, 0);
        talk.due("get a b a", "VALUE a 0 50\n" + "x".repeat(50) + "\nVALUE a 0 50\n"
            + "x".repeat(50) + "\nEND");
        figures(talk, 1, 5, 0, 1, 0, 0, 2, 1, 0);
        talk.due("gets q a", "VALUE a 0 50 1\n" + "x".repeat(50) + "\nEND");
        figures(talk, 1, 5, 0, 1, 0, 0, 3, 2, 0);
        talk.due("set b 0 7 1\nq", "STORED");
        talk.tick(7);
        figures(talk, 1, 4, 7, 2, 0, 1, 3, 2, 0);
        for (int i = 0; i < 5; i++) {
            talk.stored("c" + i, 45);
        }
        figures(talk, 5, 0, 7, 7, 1, 1, 3, 2, 0);
        talk.due("set n 0 -1 1\nq", "STORED");
        figures(talk, 5, 0, 7, 8, 1, 2, 3, 2, 0);
        talk.due("touch c1 -5", "TOUCHED");
        figures(talk, 4, 0, 7, 8, 1, 3, 3, 2, 0);
        // what others take away is neither evicted nor gone
        talk.due("delete c2", "DELETED");
        talk.due("set c3 0 0 1\nq", "STORED");
        figures(talk, 3, 0, 7, 9, 1, 3, 3, 2, 0);
        talk.due("flush_all", "OK");
        figures(talk, 0, 0, 7, 9, 1, 3, 3, 2, 0);
        talk.write("get a b");
        figures(talk, 0, 0, 7, 9, 1, 3, 3, 2, 7);
        talk.pantry.send();
        figures(talk, 0, 0, 7, 9, 1, 3, 3, 4, 0);
    }

    private static void onlyGetAndGetsCountWhatTheyFind() {
        Talk talk = new Talk(CHECK);
        talk.stored("a", 1);
        talk.due("touch a 0", "TOUCHED");
        talk.due("add a 0 0 1\nx", "NOT_STORED");
        talk.due("append a 0 0 1\nx", "STORED");
        talk.due("delete a", "DELETED");
        talk.due("delete a", "NOT_FOUND");
        talk.due("touch a 1", "NOT_FOUND");
        talk.due("incr a 1", "NOT_FOUND");
        talk.due("get a b c d", "CLIENT_ERROR bad command line format");
        talk.due("get a\n", "CLIENT_ERROR bad data chunk");
        figures(talk, 0, 5, 0, 2, 0, 0, 0, 0, 0);
    }

    private static void tokensAreGivenToWhatIsStored() {
        Talk talk = new Talk(CHECK);
        talk.due("set a 0 0 1\n1", "STORED");
        talk.due("add a 0 0 1\n1", "NOT_STORED");
        talk.due("replace b 0 0 1\n1", "NOT_STORED");
        talk.due("cas a 0 0 1 2\n1", "EXISTS");
        talk.due("touch a 0", "TOUCHED");
        talk.due("get a", "VALUE a 0 1\n1\nEND");
        talk.due("set b 0 0 64\n" + "x".repeat(64), "SERVER_ERROR object too large for cache");
        talk.figure(3, 1);
        talk.due("incr a 1", "2");
        talk.due("decr a 1 noreply", "");
        talk.due("append a 0 0 1\n1", "STORED");
        talk.due("prepend a 0 0 1\n1", "STORED");
        talk.due("cas a 0 0 1 5\n1", "STORED");
        talk.due("replace a 0 0 1\n1", "STORED");
        talk.due("add b 0 -1 1\n1", "STORED");
        talk.figure(3, 8);
        talk.due("gets a", "VALUE a 0 1 7\n1\nEND");
    }

    private static void wrongArguments() {
        Talk talk = new Talk(CHECK);
        int[] wrong = {-1, 9, 10, Integer.MIN_VALUE, Integer.MAX_VALUE};
        for (int k : wrong) {
            CHECK.illegal("figure(" + k + ")", () -> talk.pantry.figure(k));
        }
    }
}
