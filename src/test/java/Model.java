import java.util.ArrayList;
import java.util.Arrays;
import java.util.List;

/** The document once more, in texts and lists: what a pantry is measured against. */
final class Model {
    private static final class Item {
        String key;
        long flags;
        String data;
        int token;
        long gone;
    }

    private static final List<String> STORING =
        Arrays.asList("set", "add", "replace", "append", "prepend", "cas");
    private static final String KEY = "[!-~]{1,8}";
    private static final String NUMBER = "[0-9]{1,9}";
    private static final String LIFE = "-?[0-9]{1,9}";
    private static final long NEVER = Long.MAX_VALUE;

    /** By class, the front first. */
    private final List<List<Item>> order = new ArrayList<>();
    private final int[] pages = new int[4];
    final long[] figures = new long[9];
    private String line = "";
    String reply = "";

    Model() {
        for (int c = 0; c < 4; c++) {
            order.add(new ArrayList<>());
        }
        figures[1] = 6;
    }

    boolean write(String characters) {
        if (!characters.matches("[ -~\n]*") || line.length() + characters.length() > 140) {
            return false;
        }
        line += characters;
        return true;
    }

    int wipe() {
        int had = line.length();
        line = "";
        return had;
    }

    int send() {
        int end = line.indexOf('\n');
        String command = (end < 0 ? line : line.substring(0, end)).replaceAll("^ +| +$", "");
        reply = answer(command.replaceAll(" +", " "), end < 0 ? null : line.substring(end + 1));
        line = "";
        return reply.length();
    }

    private static String form(String verb) {
        String quiet = "( noreply)?";
        String storing = " " + KEY + " " + NUMBER + " " + LIFE + " " + NUMBER;
        switch (verb) {
            case "set": case "add": case "replace": case "append": case "prepend":
                return storing + quiet;
            case "cas":
                return storing + " " + NUMBER + quiet;
            case "get": case "gets":
                return "( " + KEY + "){1,3}";
            case "delete":
                return " " + KEY + quiet;
            case "touch":
                return " " + KEY + " " + LIFE + quiet;
            case "flush_all":
                return quiet;
            case "incr": case "decr":
                return " " + KEY + " " + NUMBER + quiet;
            default:
                return null;
        }
    }

    private String answer(String command, String data) {
        String[] words = command.split(" ");
        String form = form(words[0]);
        if (form == null) {
            return "ERROR";
        }
        if (!command.matches(words[0] + form)) {
            return "CLIENT_ERROR bad command line format";
        }
        boolean storing = STORING.contains(words[0]);
        if (storing ? data == null || data.length() != Long.parseLong(words[4]) : data != null) {
            return "CLIENT_ERROR bad data chunk";
        }
        String said = storing ? storing(words, data) : other(words);
        int quietLength = storing ? (words[0].equals("cas") ? 7 : 6)
            : words[0].equals("delete") ? 3 : words[0].equals("flush_all") ? 2
            : words[0].startsWith("get") ? 99 : 4;
        return words.length == quietLength ? "" : said;
    }

    private String storing(String[] words, String data) {
        Item old = find(words[1]);
        switch (words[0]) {
            case "add":
                if (old != null) {
                    return "NOT_STORED";
                }
                break;
            case "replace":
                if (old == null) {
                    return "NOT_STORED";
                }
                break;
            case "append":
                return old == null ? "NOT_STORED"
                    : store(old.key, old.flags, old.gone, old.data + data, "STORED");
            case "prepend":
                return old == null ? "NOT_STORED"
                    : store(old.key, old.flags, old.gone, data + old.data, "STORED");
            case "cas":
                if (old == null) {
                    return "NOT_FOUND";
                }
                if (old.token != Long.parseLong(words[5])) {
                    return "EXISTS";
                }
                break;
            default:
                break;
        }
        return store(words[1], Long.parseLong(words[2]), gone(words[3]), data, "STORED");
    }

    private String other(String[] words) {
        if (words[0].startsWith("get")) {
            return values(words);
        }
        if (words[0].equals("flush_all")) {
            for (List<Item> items : order) {
                items.clear();
            }
            return "OK";
        }
        Item item = find(words[1]);
        if (item == null) {
            return "NOT_FOUND";
        }
        if (words[0].equals("delete")) {
            order.get(classOf(item)).remove(item);
            return "DELETED";
        }
        if (words[0].equals("touch")) {
            toFront(item);
            item.gone = gone(words[2]);
            takeAwayGone();
            return "TOUCHED";
        }
        if (!item.data.matches(NUMBER)) {
            return "CLIENT_ERROR cannot increment or decrement non-numeric value";
        }
        long change = Long.parseLong(words[2]);
        long number = Long.parseLong(item.data);
        number = words[0].equals("incr") ? (number + change) % 1000000000L : Math.max(0, number - change);
        return store(item.key, item.flags, item.gone, "" + number, "" + number);
    }

    private String values(String[] words) {
        StringBuilder said = new StringBuilder();
        for (int i = 1; i < words.length; i++) {
            Item item = find(words[i]);
            figures[item == null ? 7 : 6]++;
            if (item != null) {
                toFront(item);
                said.append("VALUE ").append(item.key).append(' ').append(item.flags).append(' ')
                    .append(item.data.length()).append(words[0].equals("gets") ? " " + item.token : "")
                    .append('\n').append(item.data).append('\n');
            }
        }
        return said.append("END").toString();
    }

    private String store(String key, long flags, long gone, String data, String said) {
        int size = key.length() + data.length();
        if (size > 64) {
            return "SERVER_ERROR object too large for cache";
        }
        int c = classOf(size);
        if (pages[c] == 0 && figures[1] == 0) {
            return "SERVER_ERROR out of memory storing object";
        }
        Item old = find(key);
        if (old != null) {
            order.get(classOf(old)).remove(old);
        }
        List<Item> items = order.get(c);
        if (items.size() == pages[c] * (8 >> c)) {
            if (figures[1] > 0) {
                figures[1]--;
                pages[c]++;
            } else {
                items.remove(items.size() - 1);
                figures[4]++;
            }
        }
        Item item = new Item();
        item.key = key;
        item.flags = flags;
        item.data = data;
        item.gone = gone;
        item.token = (int) ++figures[3];
        items.add(0, item);
        takeAwayGone();
        return said;
    }

    void tick(int n) {
        figures[2] += n;
        takeAwayGone();
    }

    private void takeAwayGone() {
        for (List<Item> items : order) {
            int before = items.size();
            items.removeIf(item -> item.gone <= figures[2]);
            figures[5] += before - items.size();
        }
    }

    private long gone(String life) {
        if (life.startsWith("-")) {
            return figures[2];
        }
        long n = Long.parseLong(life);
        return n == 0 ? NEVER : figures[2] + n;
    }

    private Item find(String key) {
        for (List<Item> items : order) {
            for (Item item : items) {
                if (item.key.equals(key)) {
                    return item;
                }
            }
        }
        return null;
    }

    private void toFront(Item item) {
        List<Item> items = order.get(classOf(item));
        items.remove(item);
        items.add(0, item);
    }

    private static int classOf(Item item) {
        return classOf(item.key.length() + item.data.length());
    }

    private static int classOf(int size) {
        return size <= 8 ? 0 : size <= 16 ? 1 : size <= 32 ? 2 : 3;
    }

    int slab(int c, int what) {
        int items = order.get(c).size();
        return what == 0 ? pages[c] : what == 1 ? items : pages[c] * (8 >> c) - items;
    }

    long figure(int k) {
        figures[0] = 0;
        for (List<Item> items : order) {
            figures[0] += items.size();
        }
        figures[8] = line.length();
        return figures[k];
    }

    int items(int c) {
        return order.get(c).size();
    }

    int order(int c, int k) {
        return order.get(c).get(k).token;
    }
}
