/** Promise 6: tick, and when items are gone. */
public final class TickTest {
    private static final Check CHECK = new Check("TickTest");

    public static void main(String[] args) {
        takesOnlyItsRange();
        takesAwayInTime();
        takesAwayManyAtOnce();
        keepsWhatIsNeverGone();
        longestLife();
        CHECK.finish();
    }

    private static String tick(Talk talk, int n) {
        return Check.outcome(() -> {
            talk.pantry.tick(n);
            return 0;
        });
    }

    private static void takesOnlyItsRange() {
        Talk talk = new Talk(CHECK);
        String illegal = "throws.IllegalArgumentException";
        CHECK.same("tick(0)", tick(talk, 0), "0");
        talk.figure(2, 0);
        CHECK.same("tick(-1)", tick(talk, -1), illegal);
        CHECK.same("tick(1000001)", tick(talk, 1000001), illegal);
        CHECK.same("tick(least)", tick(talk, Integer.MIN_VALUE), illegal);
        CHECK.same("tick(most)", tick(talk, Integer.MAX_VALUE), illegal);
        talk.figure(2, 0);
        CHECK.same("tick(1)", tick(talk, 1), "0");
        CHECK.same("tick(1000000)", tick(talk, 1000000), "0");
        talk.figure(2, 1000001);
    }

    private static void takesAwayInTime() {
        Talk talk = new Talk(CHECK);
        talk.tick(10);
        talk.due("set a 0 5 1\nq", "STORED");
        talk.tick(4);
        talk.due("get a", "VALUE a 0 1\nq\nEND");
        talk.tick(0);
        talk.figure(0, 1);
        talk.tick(1);
        talk.figure(0, 0);
        talk.figure(5, 1);
        talk.slab(0, 1, 0, 8);
        talk.order(0);
        talk.due("get a", "END");
        talk.tick(1);
        talk.figure(5, 1);
    }

    private static void takesAwayManyAtOnce() {
        Talk talk = new Talk(CHECK);
        String[] keys = {"a", "b", "c", "d", "e", "f"};
        int[] lives = {3, 9, 2, 0, 3, 1};
        for (int i = 0; i < keys.length; i++) {
            talk.due("set " + keys[i] + " 0 " + lives[i] + " 1\nq", "STORED");
        }
        talk.due("set long 0 2 50\n" + "x".repeat(50), "STORED");
        talk.due("set stay 0 4 50\n" + "x".repeat(50), "STORED");
        talk.tick(3);
        talk.figure(5, 5);
        talk.figure(0, 3);
        talk.order(0, 4, 2);
        talk.order(3, 8);
        talk.slab(0, 1, 2, 6);
        talk.slab(3, 2, 1, 1);
        talk.tick(1000000);
        talk.figure(5, 7);
        talk.order(0, 4);
        talk.order(3);
        talk.figure(4, 0);
    }

    private static void keepsWhatIsNeverGone() {
        Talk talk = new Talk(CHECK);
        talk.due("set a 0 000 1\nq", "STORED");
        for (int i = 0; i < 400; i++) {
            talk.tick(1000000);
        }
        talk.figure(2, 400000000);
        talk.due("get a", "VALUE a 0 1\nq\nEND");
    }

    private static void longestLife() {
        Talk talk = new Talk(CHECK);
        for (int i = 0; i < 440; i++) {
            talk.tick(1000000);
        }
        talk.due("set a 0 999999999 1\nq", "STORED");
        talk.due("set b 0 1000000 1\nq", "STORED");
        talk.due("set c 0 1000001 1\nq", "STORED");
        talk.tick(1000000);
        talk.order(0, 3, 1);
        talk.figure(5, 1);
    }
}
