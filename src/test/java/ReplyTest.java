/** Promise 5: reply. */
public final class ReplyTest {
    public static void main(String[] args) {
        Check check = new Check("ReplyTest");
        Talk talk = new Talk(check);
        SlabPantry pantry = talk.pantry;
        check.outOfBounds("reply(0) at first", () -> pantry.reply(0));
        check.outOfBounds("reply(-1) at first", () -> pantry.reply(-1));

        talk.write("set ab 7 0 2\nxy");
        check.same("send()", pantry.send(), 6);
        check.same("reply(0)", pantry.reply(0), 'S');
        check.same("reply(5)", pantry.reply(5), 'D');
        check.outOfBounds("reply(6)", () -> pantry.reply(6));
        check.outOfBounds("reply(-1)", () -> pantry.reply(-1));
        check.outOfBounds("reply(most)", () -> pantry.reply(Integer.MAX_VALUE));
        check.outOfBounds("reply(least)", () -> pantry.reply(Integer.MIN_VALUE));

        talk.write("get ab");
        check.same("send()", pantry.send(), 19);
        String due = "VALUE ab 7 2\nxy\nEND";
        for (int i = 0; i < due.length(); i++) {
            check.same("reply(" + i + ")", pantry.reply(i), due.charAt(i));
        }
        check.outOfBounds("reply(19)", () -> pantry.reply(19));

        // a shorter reply hides what the longer one had there
        talk.due("get z", "END");
        check.outOfBounds("reply(3)", () -> pantry.reply(3));
        // and an empty one all of it
        talk.due("delete ab noreply", "");
        check.outOfBounds("reply(0)", () -> pantry.reply(0));
        check.finish();
    }
}
