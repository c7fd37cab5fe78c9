/** Promise 8: order, and what comes to the front. */
public final class OrderTest {
    private static final Check CHECK = new Check("OrderTest");

    public static void main(String[] args) {
        whatComesToTheFront();
        whatDoesNot();
        classesHaveTheirOwn();
        wrongArguments();
        CHECK.finish();
    }

    private static Talk three() {
        Talk talk = new Talk(CHECK);
        talk.due("set a 0 0 1\n1", "STORED");
        talk.due("set b 0 0 1\n2", "STORED");
        talk.due("set c 0 0 1\n3", "STORED");
        talk.order(0, 3, 2, 1);
        return talk;
    }

    private static void whatComesToTheFront() {
        Talk talk = three();
        talk.due("get a", "VALUE a 0 1\n1\nEND");
        talk.order(0, 1, 3, 2);
        talk.due("gets c", "VALUE c 0 1 3\n3\nEND");
        talk.order(0, 3, 1, 2);
        talk.due("touch a 9", "TOUCHED");
        talk.order(0, 1, 3, 2);
        talk.due("touch a 0 noreply", "");
        talk.order(0, 1, 3, 2);
        talk.due("get b zz c", "VALUE b 0 1\n2\nVALUE c 0 1\n3\nEND");
        talk.order(0, 3, 2, 1);
        talk.due("get c c b", "VALUE c 0 1\n3\nVALUE c 0 1\n3\nVALUE b 0 1\n2\nEND");
        talk.order(0, 2, 3, 1);
        talk.due("incr a 1", "2");
        talk.order(0, 4, 2, 3);
        talk.due("append c 0 0 1\n9", "STORED");
        talk.order(0, 5, 4, 2);
        talk.due("set b 0 0 1\n0", "STORED");
        talk.order(0, 6, 5, 4);
        talk.due("cas a 0 0 1 4\n0", "STORED");
        talk.order(0, 7, 6, 5);
        talk.due("replace c 0 0 1\n0", "STORED");
        talk.order(0, 8, 7, 6);
        talk.due("delete a", "DELETED");
        talk.order(0, 8, 6);
    }

    private static void whatDoesNot() {
        Talk talk = three();
        talk.due("add a 0 0 1\nx", "NOT_STORED");
        talk.due("cas a 0 0 1 9\nx", "EXISTS");
        talk.due("get zz", "END");
        talk.due("touch zz 1", "NOT_FOUND");
        talk.due("set a 0 0 64\n" + "x".repeat(64), "SERVER_ERROR object too large for cache");
        talk.due("append b 0 0 63\n" + "x".repeat(63), "SERVER_ERROR object too large for cache");
        talk.due("get a\n", "CLIENT_ERROR bad data chunk");
        talk.due("get a b c d", "CLIENT_ERROR bad command line format");
        talk.order(0, 3, 2, 1);
    }

    private static void classesHaveTheirOwn() {
        Talk talk = three();
        talk.stored("d", 40);
        talk.stored("e", 41);
        talk.stored("f", 10);
        talk.order(0, 3, 2, 1);
        talk.order(1, 6);
        talk.order(2);
        talk.order(3, 5, 4);
        // one that changes its class leaves the order of the other
        talk.stored("b", 30);
        talk.order(0, 3, 1);
        talk.order(2, 7);
        talk.due("flush_all", "OK");
        for (int c = 0; c < 4; c++) {
            talk.order(c);
        }
    }

    private static void wrongArguments() {
        Talk talk = three();
        int[] classes = {-1, 4, Integer.MIN_VALUE, Integer.MAX_VALUE};
        for (int c : classes) {
            CHECK.illegal("order(" + c + ", 0)", () -> talk.pantry.order(c, 0));
            CHECK.illegal("order(" + c + ", -1)", () -> talk.pantry.order(c, -1));
            CHECK.illegal("order(" + c + ", 99)", () -> talk.pantry.order(c, 99));
        }
        int[] places = {-1, 3, 4, Integer.MIN_VALUE, Integer.MAX_VALUE};
        for (int k : places) {
            CHECK.outOfBounds("order(0, " + k + ")", () -> talk.pantry.order(0, k));
        }
        CHECK.outOfBounds("order(3, 0)", () -> talk.pantry.order(3, 0));
        talk.order(0, 3, 2, 1);
    }
}
