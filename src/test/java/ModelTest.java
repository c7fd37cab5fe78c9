/** Promises 1 to 9: long mixed runs, measured call by call against the model. */
public final class ModelTest {
    private static final int RUNS = 4000;
    private static final int MOST_CALLS = 512;
    /** Calls that a line and lookAtAll can need at most. */
    private static final int LAST_LOOK = 100;
    private static final String[] STORING = {"set", "set", "set", "add", "replace", "append", "prepend"};
    private static final String[] OTHER = {"get", "gets", "delete", "touch", "incr", "decr"};
    /** What is put into a line to bend it: what words, numbers and data are parted by or made of. */
    private static final String[] BENDS = {" ", "\n", "-", "0", "7", "x", " noreply", ""};
    private static final String[] ODD = {"", " ", "hello", "set", "get", "flush_all x", "noreply",
        "incr a", "decr a -1", "touch a --1", "delete a b", "get a b c d", "set a 0 0 1", "get a\n",
        "set a 0 0 2\nx", "cas a 0 0 1\nx", "set abcdefghi 0 0 1\nx", "\n", "flush_all\n",
        "add a 0 0 1 noreply\nxx", "cas a 0 0 1 1 1\nx", "incr a 1234567890", "touch a 1 noreply\n"};

    private final Check check = new Check("ModelTest");
    private long seed = 1;
    private SlabPantry pantry;
    private Model model;
    private int run;
    private int calls;
    private int keys;
    private int longest;

    public static void main(String[] args) {
        ModelTest test = new ModelTest();
        for (test.run = 0; test.run < RUNS; test.run++) {
            test.oneRun();
        }
        test.check.finish();
    }

    /** The same numbers at every start, so that a failure can be seen again. */
    private int pick(int bound) {
        seed = seed * 6364136223846793005L + 1442695040888963407L;
        return (int) ((seed >>> 33) % bound);
    }

    private boolean chance(int percent) {
        return pick(100) < percent;
    }

    private void same(String call, long got, long due) {
        check.same("run " + run + ", call " + calls + ": " + call, got, due);
    }

    private void oneRun() {
        pantry = new SlabPantry();
        model = new Model();
        calls = 0;
        keys = 2 + pick(60);
        longest = 1 + pick(70);
        while (calls < MOST_CALLS - LAST_LOOK) {
            if (chance(6)) {
                int n = chance(5) ? 1000000 : pick(6);
                pantry.tick(n);
                model.tick(n);
                calls++;
            } else {
                speak(chance(10) ? bent(line()) : line());
            }
            look();
        }
        lookAtAll();
    }

    private String key() {
        int k = pick(keys);
        String shape = "abcdefgh".substring(0, k % 7);
        return shape + (char) ('A' + k / 3);
    }

    private String life() {
        return chance(60) ? "0" : chance(10) ? "-" + pick(3) : "" + (1 + pick(20));
    }

    private String quiet() {
        return chance(15) ? " noreply" : "";
    }

    private String data() {
        if (chance(25)) {
            return "" + pick(chance(50) ? 12 : 1000000000);
        }
        StringBuilder data = new StringBuilder();
        for (int i = pick(longest); i > 0; i--) {
            data.append(chance(3) ? '\n' : (char) (32 + pick(95)));
        }
        return data.toString();
    }

    private String line() {
        if (chance(4)) {
            return ODD[pick(ODD.length)];
        }
        if (chance(1)) {
            return "flush_all" + quiet();
        }
        String blanks = chance(5) ? "  " : " ";
        if (chance(50)) {
            String data = data();
            String words = " " + key() + blanks + pick(20) + " " + life() + blanks
                + (data.length() + (chance(2) ? 1 : 0));
            if (chance(12)) {
                return "cas" + words + " " + Math.max(0, model.figure(3) - pick(8)) + quiet() + "\n" + data;
            }
            return STORING[pick(STORING.length)] + words + quiet() + "\n" + data;
        }
        String verb = OTHER[pick(OTHER.length)];
        String line = verb + blanks + key();
        if (verb.startsWith("get")) {
            for (int i = pick(3); i > 0; i--) {
                line += " " + key();
            }
            return line;
        }
        if (verb.equals("touch")) {
            line += " " + life();
        } else if (!verb.equals("delete")) {
            line += " " + pick(chance(50) ? 20 : 1000000000);
        }
        return line + quiet();
    }

    /** The line with something put into it at one place, or one character there changed for it. */
    private String bent(String line) {
        int start = pick(line.length() + 1);
        int end = Math.min(line.length(), start + pick(2));
        return line.substring(0, start) + BENDS[pick(BENDS.length)] + line.substring(end);
    }

    private void speak(String line) {
        for (int i = 0; i < line.length(); i += 8) {
            String part = line.substring(i, Math.min(i + 8, line.length()));
            same("write", pantry.write(Talk.packed(part)) ? 1 : 0, model.write(part) ? 1 : 0);
            calls++;
        }
        if (chance(2)) {
            same("wipe", pantry.wipe(), model.wipe());
            calls++;
        }
        int length = pantry.send();
        calls++;
        same("send [" + line + "]", length, model.send());
        // the reply is read at two places now, and whole where calls are left for it
        boolean whole = calls + length < MOST_CALLS - LAST_LOOK && chance(20);
        for (int i = 0; i <= length; i++) {
            if (whole || i == 0 || i == length) {
                int at = i;
                String due = at < model.reply.length()
                    ? Long.toString(model.reply.charAt(at)) : "throws.IndexOutOfBoundsException";
                check.same("run " + run + ": reply(" + at + ") to [" + line + "]",
                    Check.outcome(() -> pantry.reply(at)), due);
                calls++;
            }
        }
    }

    private void look() {
        int k = pick(9);
        same("figure(" + k + ")", pantry.figure(k), model.figure(k));
        int c = pick(4);
        int what = pick(3);
        same("slab(" + c + ", " + what + ")", pantry.slab(c, what), model.slab(c, what));
        calls += 2;
    }

    private void lookAtAll() {
        for (int k = 0; k < 9; k++) {
            same("figure(" + k + ")", pantry.figure(k), model.figure(k));
        }
        for (int c = 0; c < 4; c++) {
            int items = pantry.slab(c, 1);
            same("slab(" + c + ", 1)", items, model.slab(c, 1));
            for (int k = 0; k < model.items(c) && k < items; k++) {
                same("order(" + c + ", " + k + ")", pantry.order(c, k), model.order(c, k));
            }
        }
    }
}
