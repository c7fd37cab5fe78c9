/** Promise 2: write. */
public final class WriteTest {
    private static final Check CHECK = new Check("WriteTest");

    public static void main(String[] args) {
        addsFromTheLowestByte();
        leavesZerosOut();
        refusesWhatIsNoCharacter();
        takesEveryCharacter();
        keepsTheLimit();
        keepsTheReply();
        CHECK.finish();
    }

    private static void wrote(Talk talk, long characters, boolean due, int length) {
        CHECK.same("write(" + characters + ")", talk.pantry.write(characters), due);
        talk.figure(8, length);
    }

    private static void addsFromTheLowestByte() {
        Talk talk = new Talk(CHECK);
        // "set ab 5", " 0 3", a break and "xyz"
        wrote(talk, 0x3520626120746573L, true, 8);
        wrote(talk, 0x7a79780a33203020L, true, 16);
        CHECK.same("send()", talk.pantry.send(), 6);
        // "get ab"
        wrote(talk, 0x626120746567L, true, 6);
        CHECK.same("send()", talk.pantry.send(), 20);
        CHECK.same("reply", talk.reply(), "VALUE ab 5 3\nxyz\nEND");
    }

    private static void leavesZerosOut() {
        Talk talk = new Talk(CHECK);
        wrote(talk, 0, true, 0);
        // "flush_all" with zeros before, between and behind its characters
        wrote(talk, 0x00680073756c6600L, true, 5);
        wrote(talk, 0x6c006c0061005f00L, true, 9);
        CHECK.same("send()", talk.pantry.send(), 2);
        wrote(talk, 0x5f680000736c7566L, true, 6);
        wrote(talk, 0x00006c6c61000000L, true, 9);
        CHECK.same("send()", talk.pantry.send(), 5);
    }

    private static void refusesWhatIsNoCharacter() {
        for (int code = 1; code < 256; code++) {
            if (code == 10 || code >= 32 && code <= 126) {
                continue;
            }
            Talk talk = new Talk(CHECK);
            talk.write("get ");
            wrote(talk, code, false, 4);
            wrote(talk, 0x61 | (long) code << 56, false, 4);
            wrote(talk, 0x6161616100616161L | (long) code << 24, false, 4);
            talk.due("a", "END");
        }
        Talk talk = new Talk(CHECK);
        talk.write("get ");
        wrote(talk, -1, false, 4);
        wrote(talk, Long.MIN_VALUE, false, 4);
        wrote(talk, Long.MAX_VALUE, false, 4);
        talk.due("a", "END");
    }

    private static void takesEveryCharacter() {
        Talk talk = new Talk(CHECK);
        wrote(talk, 10, true, 1);
        for (int code = 32; code <= 126; code++) {
            wrote(talk, (long) code << 8 * (code % 8), true, code - 30);
        }
        Talk stored = new Talk(CHECK);
        StringBuilder all = new StringBuilder("\n");
        for (int code = 32; code <= 126; code++) {
            all.append((char) code);
        }
        for (int i = 0; i < all.length(); i += 12) {
            String part = all.substring(i, Math.min(i + 12, all.length()));
            stored.due("set a 0 0 " + part.length() + "\n" + part, "STORED");
            stored.due("get a", "VALUE a 0 " + part.length() + "\n" + part + "\nEND");
        }
    }

    private static void keepsTheLimit() {
        Talk talk = new Talk(CHECK);
        CHECK.same("write 136", talk.write(" ".repeat(136)), true);
        wrote(talk, Talk.packed("abcde"), false, 136);
        wrote(talk, Talk.packed("abc"), true, 139);
        wrote(talk, Talk.packed("ab"), false, 139);
        wrote(talk, 0x61L << 56, true, 140);
        wrote(talk, Talk.packed("a"), false, 140);
        wrote(talk, 0, true, 140);
        CHECK.same("wipe()", talk.pantry.wipe(), 140);
        // a line of 140 is read to its end
        talk.due(" ".repeat(131) + "flush_all", "OK");
        talk.due(" ".repeat(132) + "flush_al", "ERROR");
        talk.due("set a 0 0 128" + "\n" + "y".repeat(126), "CLIENT_ERROR bad data chunk");
        talk.due("set a 0 0 126" + "\n" + "y".repeat(126), "SERVER_ERROR object too large for cache");
    }

    private static void keepsTheReply() {
        Talk talk = new Talk(CHECK);
        talk.due("flush_all", "OK");
        talk.write("get a");
        CHECK.same("reply", talk.reply(), "OK");
    }
}
