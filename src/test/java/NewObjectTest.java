/** Promise 1: a new object has only free pages and no items. */
public final class NewObjectTest {
    public static void main(String[] args) {
        Check check = new Check("NewObjectTest");
        Talk talk = new Talk(check);
        for (int k = 0; k <= 8; k++) {
            talk.figure(k, k == 1 ? 6 : 0);
        }
        for (int c = 0; c < 4; c++) {
            talk.slab(c, 0, 0, 0);
            talk.order(c);
        }
        check.same("reply", talk.reply(), "");
        check.same("wipe()", talk.pantry.wipe(), 0);
        talk.due("get a", "END");

        // two objects have nothing in common
        Talk other = new Talk(check);
        other.stored("a", 1);
        talk.figure(0, 0);
        talk.due("get a", "END");
        check.finish();
    }
}
