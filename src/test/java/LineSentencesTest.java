/** 'Terms', the line, and promises 2 to 4: a test for each sentence that names a boundary case. */
public final class LineSentencesTest {
    private static final Check CHECK = new Check("LineSentencesTest");
    private static final int LIMIT = 140;

    public static void main(String[] args) {
        characters();
        atMost140();
        atFirstEmpty();
        commandBeforeTheFirstBreak();
        blanksAround();
        dataBehindTheFirstBreak();
        replyAtFirstEmpty();
        upToEightFromTheLowest();
        zerosLeftOut();
        noCharacter();
        moreThan140();
        wipeOfAnEmptyLine();
        wipeOfAFullLine();
        lineIsEmptyBehindSend();
        lengthOfTheReply();
        CHECK.finish();
    }

    private static Talk talk() {
        return new Talk(CHECK);
    }

    private static void characters() {
        CHECK.sentence("CHARACTERS are those with codes 32 .. 126, and 10, which is a BREAK.");
        int[] yes = {10, 32, 33, 125, 126};
        int[] no = {1, 9, 11, 13, 31, 127, 128, 160, 254, 255};
        for (int code : yes) {
            talk().wrote(code, true, 1);
        }
        for (int code : no) {
            talk().wrote(code, false, 0);
        }
    }

    private static void atMost140() {
        CHECK.sentence("THE LINE is a row of at most 140 of them");
        Talk talk = talk();
        for (int i = 1; i <= LIMIT; i++) {
            talk.wrote('a', true, i);
        }
        talk.wrote('a', false, LIMIT);
        talk.wrote('\n', false, LIMIT);
        // the last one of 140 is read, too
        Talk full = talk();
        full.due("get b" + " ".repeat(LIMIT - 6) + "a", "END");
        full.figure(7, 2);
    }

    private static void atFirstEmpty() {
        CHECK.sentence("THE LINE is a row of at most 140 of them, at first empty.");
        talk().figure(8, 0);
        talk().wiped(0);
        talk().due("", "ERROR");
        // of two objects each one has its own
        Talk other = talk();
        other.write("get a");
        talk().figure(8, 0);
    }

    private static void commandBeforeTheFirstBreak() {
        CHECK.sentence("What stands before the first break (or all, without one) is the COMMAND");
        Talk talk = talk();
        talk.due("flush_all", "OK");
        talk.due("\nflush_all", "ERROR");
        talk.due("set a 0 0 0\n", "STORED");
        talk.due("set b 0 0 9\nflush_all", "STORED");
        talk.due("set c 0 0 11\n\ndelete a\n\n", "STORED");
        talk.due("get a b c", "VALUE a 0 0\n\nVALUE b 0 9\nflush_all\n"
            + "VALUE c 0 11\n\ndelete a\n\n\nEND");
    }

    private static void blanksAround() {
        CHECK.sentence("a row of WORDS with one or more blanks between them (blanks may stand before"
            + " the first and behind the last one, too)");
        Talk talk = talk();
        talk.due("set a 1 0 1\nx", "STORED");
        String due = "VALUE a 1 1\nx\nEND";
        String[] same = {"get a", " get a", "get a ", "get  a", "     get a", "get a     ",
            "   get   a   ", " ".repeat(LIMIT - 5) + "get a", "get" + " ".repeat(LIMIT - 4) + "a",
            "get a" + " ".repeat(LIMIT - 5)};
        for (String line : same) {
            talk.due(line, due);
        }
        // no blank is a word of its own
        talk.figure(7, 0);
        talk.due("geta", "ERROR");
        talk.due("  set   b  2   0    1   \n ", "STORED");
        talk.due("get b", "VALUE b 2 1\n \nEND");
        talk.due("set b 3 0 1 \n ", "STORED");
        talk.due(" set b 4 0 1\n ", "STORED");
        talk.due("touch b 0 ", "TOUCHED");
        talk.due(" delete  b   noreply  ", "");
        talk.due("get b", "END");
        talk.due("flush_all ", "OK");
    }

    private static void dataBehindTheFirstBreak() {
        CHECK.sentence("what stands behind the first break is the DATA.");
        Talk talk = talk();
        String[] data = {"", "x", "\n", "\n\n", " ", "   ", " x ", "x\n", "\nx", "get a"};
        for (String text : data) {
            talk.due("set a 0 0 " + text.length() + "\n" + text, "STORED");
            talk.due("get a", "VALUE a 0 " + text.length() + "\n" + text + "\nEND");
        }
    }

    private static void replyAtFirstEmpty() {
        CHECK.sentence("THE REPLY is a row of characters, at first empty.");
        Talk talk = talk();
        CHECK.outOfBounds("reply(0)", () -> talk.pantry.reply(0));
        talk.write("flush_all");
        CHECK.outOfBounds("reply(0) behind write", () -> talk.pantry.reply(0));
        talk.wiped(9);
        CHECK.outOfBounds("reply(0) behind wipe", () -> talk.pantry.reply(0));
        talk.tick(1);
        CHECK.outOfBounds("reply(0) behind tick", () -> talk.pantry.reply(0));
    }

    private static void upToEightFromTheLowest() {
        CHECK.sentence("Adds up to eight characters to the line: the bytes of the long, from the lowest on");
        Talk talk = talk();
        talk.wrote(0x6867666564636261L, true, 8);
        talk.sent(5);
        // "set abc ", "1 0 1", a break and "x"
        talk.wrote(0x2063626120746573L, true, 8);
        talk.wrote(0x780a3120302031L, true, 15);
        talk.sent(6);
        talk.wrote(0x63626120746567L, true, 7);
        talk.sent("VALUE abc 1 1\nx\nEND".length());
    }

    private static void zerosLeftOut() {
        CHECK.sentence("but for those that are 0.");
        Talk talk = talk();
        talk.wrote(0, true, 0);
        for (int i = 0; i < 8; i++) {
            talk.wrote((long) "flush_al".charAt(i) << 8 * i, true, i + 1);
        }
        talk.wrote((long) 'l' << 56, true, 9);
        talk.wrote(0, true, 9);
        talk.due("", "OK");
        // "flush_" and "all" with zeros before, between and behind them
        talk.wrote(0x5f68730075006c66L, true, 6);
        talk.wrote(0x006c6c0000610000L, true, 9);
        talk.due("", "OK");
    }

    private static void noCharacter() {
        CHECK.sentence("False, adding nothing, if one is no character");
        int[] codes = {1, 9, 11, 31, 127, 128, 255};
        for (int code : codes) {
            Talk talk = talk();
            talk.write("flush");
            for (int i = 0; i < 8; i++) {
                long others = 0x6161616161616161L & ~(255L << 8 * i);
                talk.wrote((long) code << 8 * i, false, 5);
                talk.wrote(others | (long) code << 8 * i, false, 5);
            }
            talk.due("_all", "OK");
        }
        Talk talk = talk();
        talk.wrote(-1, false, 0);
        talk.wrote(Long.MIN_VALUE, false, 0);
        talk.wrote(Long.MAX_VALUE, false, 0);
    }

    private static void moreThan140() {
        CHECK.sentence("False, adding nothing, if one is no character, or they would be more than 140.");
        for (int had = LIMIT - 8; had <= LIMIT; had++) {
            for (int more = 0; more <= 8; more++) {
                Talk talk = talk();
                talk.write("get" + " ".repeat(had - 3));
                boolean fits = had + more <= LIMIT;
                talk.wrote(Talk.packed("aaaaaaaa".substring(0, more)), fits, fits ? had + more : had);
            }
        }
        // what did not fit left nothing behind, and zeros do not count
        Talk talk = talk();
        talk.write("get" + " ".repeat(135));
        talk.wrote(Talk.packed("abc"), false, 138);
        talk.wrote(0x0062000000000061L, true, 140);
        talk.wrote(0, true, 140);
        talk.wrote(127, false, 140);
        talk.due("", "END");
        talk.figure(7, 1);
    }

    private static void wipeOfAnEmptyLine() {
        CHECK.sentence("Makes the line empty");
        Talk talk = talk();
        talk.wiped(0);
        talk.wiped(0);
        talk.wrote(0, true, 0);
        talk.wiped(0);
        talk.write("get a");
        talk.wiped(5);
        talk.wiped(0);
        talk.write("flush_all");
        talk.sent(2);
        talk.wiped(0);
        talk.due("", "ERROR");
    }

    private static void wipeOfAFullLine() {
        CHECK.sentence("Makes the line empty: how many characters it had.");
        Talk talk = talk();
        talk.stored("a", 1);
        talk.write("flush_all" + " ".repeat(131));
        talk.wiped(LIMIT);
        talk.figure(8, 0);
        CHECK.same("reply", talk.reply(), "STORED");
        talk.due("get a", "VALUE a 0 1\nx\nEND");
        CHECK.same("140 fit again", talk.write("b".repeat(LIMIT)), true);
        talk.wiped(LIMIT);
        // breaks and characters of a refused write count as they should
        talk.wrote(Talk.packed("\n\n\n"), true, 3);
        talk.wrote(Talk.packed("ab\tc"), false, 3);
        talk.wiped(3);
    }

    private static void lineIsEmptyBehindSend() {
        CHECK.sentence("Does what the line says; then the line is empty.");
        String[] lines = {"", "   ", "hello", "set", "set a 0 0 1", "get a\n", "get a", "flush_all noreply",
            "set a 0 0 1\nx", "set a 0 0 80\n" + "x".repeat(80), "b".repeat(LIMIT), "\n".repeat(LIMIT)};
        for (String line : lines) {
            Talk talk = talk();
            talk.say(line);
            talk.figure(8, 0);
            talk.due("", "ERROR");
            talk.wiped(0);
            CHECK.same("140 fit again", talk.write("b".repeat(LIMIT)), true);
        }
        // nothing of a longer line is left in a shorter one
        Talk talk = talk();
        talk.due("set a 0 0 9\n\n\n\n\n\n\n\n\n\n", "STORED");
        talk.due("delete a", "DELETED");
        talk.due("get", "CLIENT_ERROR bad command line format");
    }

    private static void lengthOfTheReply() {
        CHECK.sentence("The length of the reply.");
        Talk talk = talk();
        talk.write("flush_all noreply");
        talk.sent(0);
        talk.sent(5);
        int longest = 3;
        for (int i = 0; i < 3; i++) {
            talk.write("set abcdefg" + i + " 999999999 0 56\n" + "x".repeat(56));
            talk.sent(6);
            longest += "VALUE abcdefg0 999999999 56 1\n\n".length() + 56;
        }
        talk.write("gets abcdefg0 abcdefg1 abcdefg2");
        talk.sent(longest);
        talk.character(longest - 1, 'D');
        int behind = longest;
        CHECK.outOfBounds("behind it", () -> talk.pantry.reply(behind));
    }
}
