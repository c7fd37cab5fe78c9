/** Promise 3: wipe. */
public final class WipeTest {
    public static void main(String[] args) {
        Check check = new Check("WipeTest");
        Talk talk = new Talk(check);
        check.same("wipe()", talk.pantry.wipe(), 0);
        talk.write("set a 0 0 1\nq");
        check.same("wipe()", talk.pantry.wipe(), 13);
        talk.figure(8, 0);
        check.same("wipe()", talk.pantry.wipe(), 0);
        talk.due("get a", "END");
        talk.write("hello\n");
        check.same("wipe()", talk.pantry.wipe(), 6);
        check.same("reply", talk.reply(), "END");

        // nothing of the wiped line is left behind a break
        talk.due("set a 0 0 0\n", "STORED");
        talk.write("\n\n\n\n\n\n\n\n\n");
        talk.pantry.wipe();
        talk.due("get a", "VALUE a 0 0\n\nEND");
        talk.write("x".repeat(140));
        check.same("wipe()", talk.pantry.wipe(), 140);
        talk.due("delete a", "DELETED");
        check.same("wipe() behind send()", talk.pantry.wipe(), 0);
        check.finish();
    }
}
