/** Speaks to a pantry in texts. */
final class Talk {
    final SlabPantry pantry = new SlabPantry();
    private static final int MOST_CALLS = 512;
    private final Check check;
    private int calls = 0;

    Talk(Check check) {
        this.check = check;
    }

    /** What an object answers after its 512th call is free, so a test that went so far is wrong. */
    private void called(int times) {
        if (calls <= MOST_CALLS && calls + times > MOST_CALLS) {
            check.same("calls of one object", calls + times, MOST_CALLS);
        }
        calls += times;
    }

    /** The long whose bytes are these (at most eight) characters, the first one lowest. */
    static long packed(String characters) {
        long value = 0;
        for (int i = characters.length() - 1; i >= 0; i--) {
            value = value << 8 | characters.charAt(i) & 255;
        }
        return value;
    }

    boolean write(String text) {
        for (int i = 0; i < text.length(); i += 8) {
            called(1);
            if (!pantry.write(packed(text.substring(i, Math.min(i + 8, text.length()))))) {
                return false;
            }
        }
        return true;
    }

    String say(String line) {
        if (!write(line)) {
            return "(not written)";
        }
        called(1);
        int length = pantry.send();
        String reply = reply();
        return reply.length() == length ? reply : "(send answered " + length + ")" + reply;
    }

    String reply() {
        StringBuilder reply = new StringBuilder();
        for (int i = 0; i < 1000; i++) {
            called(1);
            try {
                reply.append(pantry.reply(i));
            } catch (IndexOutOfBoundsException e) {
                return reply.toString();
            }
        }
        return reply + "(no end)";
    }

    /** Character i of the reply. */
    void character(int i, char due) {
        called(1);
        answered("reply(" + i + ")", () -> pantry.reply(i), due);
    }

    /** A call that throws where it should answer is a wrong answer, and the test goes on. */
    private void answered(String call, Check.Call made, long due) {
        check.same(call, Check.outcome(made), Long.toString(due));
    }

    void due(String line, String reply) {
        check.same("say [" + line + "]", say(line), reply);
    }

    /** Stores data of so many characters under the key; only the length of the reply is looked at. */
    void stored(String key, int dataLength) {
        write("set " + key + " 0 0 " + dataLength + "\n" + "x".repeat(dataLength));
        called(1);
        check.same("send() for key " + key, pantry.send(), "STORED".length());
    }

    /** The commands in this order; each one is refused with this reply and changes nothing. */
    void refused(String reply, String... lines) {
        String before = state();
        for (String line : lines) {
            due(line, reply);
            check.same("state behind [" + line + "]", state(), before);
        }
    }

    /** All that figure, slab and order tell. */
    String state() {
        StringBuilder state = new StringBuilder();
        for (int k = 0; k < 9; k++) {
            state.append(pantry.figure(k)).append(' ');
        }
        for (int c = 0; c < 4; c++) {
            int items = pantry.slab(c, 1);
            state.append("| ").append(pantry.slab(c, 0)).append(' ').append(pantry.slab(c, 2)).append(':');
            for (int k = 0; k < items; k++) {
                state.append(' ').append(pantry.order(c, k));
            }
            called(3 + items);
        }
        called(9);
        return state.toString();
    }

    /** Writes these bytes; behind it the line has so many characters. */
    void wrote(long characters, boolean due, int lineLength) {
        called(1);
        check.same("write(0x" + Long.toHexString(characters) + ")", pantry.write(characters), due);
        figure(8, lineLength);
    }

    void wiped(int due) {
        called(1);
        check.same("wipe()", pantry.wipe(), due);
    }

    /** Sends what was written: only the length of the reply is looked at. */
    void sent(int due) {
        called(1);
        check.same("send()", pantry.send(), due);
    }

    void tick(int n) {
        called(1);
        pantry.tick(n);
    }

    void figure(int k, long due) {
        called(1);
        answered("figure(" + k + ")", () -> pantry.figure(k), due);
    }

    /** Pages, items and free chunks of class c. */
    void slab(int c, int pages, int items, int free) {
        called(3);
        answered("slab(" + c + ", 0)", () -> pantry.slab(c, 0), pages);
        answered("slab(" + c + ", 1)", () -> pantry.slab(c, 1), items);
        answered("slab(" + c + ", 2)", () -> pantry.slab(c, 2), free);
    }

    /** All tokens in the order of class c, and the end behind them. */
    void order(int c, int... tokens) {
        called(tokens.length + 1);
        for (int k = 0; k < tokens.length; k++) {
            int at = k;
            answered("order(" + c + ", " + k + ")", () -> pantry.order(c, at), tokens[k]);
        }
        check.outOfBounds("order(" + c + ", " + tokens.length + ")",
            () -> pantry.order(c, tokens.length));
    }
}
