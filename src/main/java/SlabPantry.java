/**
 * A cache that is spoken to by lines of text: items with keys, data and a time to live, in chunks
 * of four sizes carved from pages. The document DOC.md says what every call promises.
 */
public final class SlabPantry {
    private static final int LINE_LIMIT = 140;
    private static final int BYTES_OF_LONG = 8;
    private static final int MOST_TICKS = 1000000;

    private final Text line;
    private final Text answer;
    private final Memory memory;
    private final Clerk clerk;

    public SlabPantry() {
        line = new Text(LINE_LIMIT);
        answer = new Text(Clerk.ANSWER_LIMIT);
        memory = new Memory();
        clerk = new Clerk(line, answer, memory);
    }

    public boolean write(long characters) {
        int added = 0;
        for (int i = 0; i < BYTES_OF_LONG; i++) {
            int code = byteOf(characters, i);
            if (code != 0 && !Text.isCharacter(code)) {
                return false;
            }
            if (code != 0) {
                added++;
            }
        }
        if (line.length() + added > LINE_LIMIT) {
            return false;
        }
        for (int i = 0; i < BYTES_OF_LONG; i++) {
            int code = byteOf(characters, i);
            if (code != 0) {
                line.add((char) code);
            }
        }
        return true;
    }

    public int wipe() {
        int had = line.length();
        line.clear();
        return had;
    }

    public int send() {
        answer.clear();
        if (clerk.understands()) {
            clerk.obey();
        }
        line.clear();
        return answer.length();
    }

    public char reply(int i) throws IndexOutOfBoundsException {
        if (i < 0 || i >= answer.length()) {
            throw new IndexOutOfBoundsException();
        }
        return answer.at(i);
    }

    public void tick(int n) throws IllegalArgumentException {
        if (n < 0 || n > MOST_TICKS) {
            throw new IllegalArgumentException();
        }
        memory.pass(n);
    }

    public int slab(int c, int what) throws IllegalArgumentException {
        if (c < 0 || c >= Memory.CLASSES || what < 0 || what > 2) {
            throw new IllegalArgumentException();
        }
        Shelf shelf = memory.shelf(c);
        if (what == 0) {
            return shelf.pages();
        }
        return what == 1 ? shelf.items() : shelf.freeChunks();
    }

    public int order(int c, int k) throws IllegalArgumentException, IndexOutOfBoundsException {
        if (c < 0 || c >= Memory.CLASSES) {
            throw new IllegalArgumentException();
        }
        Chunk item = memory.shelf(c).itemAt(k);
        if (item == null) {
            throw new IndexOutOfBoundsException();
        }
        return item.token;
    }

    public int figure(int k) throws IllegalArgumentException {
        switch (k) {
            case 0:
                return memory.items();
            case 1:
                return memory.freePages();
            case 2:
                return memory.time();
            case 3:
                return memory.tokens();
            case 4:
                return memory.evicted();
            case 5:
                return memory.expired();
            case 6:
                return clerk.hits();
            case 7:
                return clerk.misses();
            case 8:
                return line.length();
            default:
                throw new IllegalArgumentException();
        }
    }

    private static int byteOf(long characters, int i) {
        return (int) (characters >>> (8 * i)) & 255;
    }

    /** A row of characters in room that is made once; what would go beyond its limit is dropped. */
    private static final class Text {
        static final char BREAK = 10;
        static final char BLANK = 32;
        private static final char LAST_CHARACTER = 126;
        private static final int MOST_DECIMALS = 9;
        private static final int HIGHEST_UNIT = 1000000000;

        private final char[] characters;
        private int length;

        Text(int limit) {
            characters = new char[limit];
            length = 0;
        }

        static boolean isCharacter(int code) {
            return code == BREAK || (code >= BLANK && code <= LAST_CHARACTER);
        }

        int length() {
            return length;
        }

        /** Character i; code 0, which is no character, where there is none. */
        char at(int i) {
            return i >= 0 && i < length ? characters[i] : 0;
        }

        void clear() {
            length = 0;
        }

        void add(char character) {
            if (length < characters.length) {
                characters[length] = character;
                length++;
            }
        }

        void addWritten(String written) {
            for (int i = 0; i < written.length(); i++) {
                add(written.charAt(i));
            }
        }

        void addPart(Text from, int start, int count) {
            for (int i = 0; i < count; i++) {
                add(from.at(start + i));
            }
        }

        void addNumber(int number) {
            for (int unit = HIGHEST_UNIT; unit > 0; unit /= 10) {
                if (number >= unit || unit == 1) {
                    add((char) ('0' + number / unit % 10));
                }
            }
        }

        boolean isWritten(int start, int count, String written) {
            if (count != written.length()) {
                return false;
            }
            for (int i = 0; i < count; i++) {
                if (at(start + i) != written.charAt(i)) {
                    return false;
                }
            }
            return true;
        }

        boolean isNumber(int start, int count) {
            if (count < 1 || count > MOST_DECIMALS) {
                return false;
            }
            for (int i = 0; i < count; i++) {
                char decimal = at(start + i);
                if (decimal < '0' || decimal > '9') {
                    return false;
                }
            }
            return true;
        }

        /** Only for what isNumber says yes to: nine decimals fit an int. */
        int number(int start, int count) {
            int value = 0;
            for (int i = 0; i < count; i++) {
                value = value * 10 + (at(start + i) - '0');
            }
            return value;
        }

        /** Where the first break stands, or the length if there is none. */
        int firstBreak() {
            for (int i = 0; i < length; i++) {
                if (at(i) == BREAK) {
                    return i;
                }
            }
            return length;
        }
    }

    /**
     * The first words of commands. The form tells the words behind the first one: k a key, n a
     * number, l a time to live. One that changes an item keeps its flags and its time.
     */
    private enum Verb {
        SET("set", "knln", true, false),
        ADD("add", "knln", true, false),
        REPLACE("replace", "knln", true, false),
        APPEND("append", "knln", true, true),
        PREPEND("prepend", "knln", true, true),
        CAS("cas", "knlnn", true, false),
        GET("get", "k", false, false),
        GETS("gets", "k", false, false),
        DELETE("delete", "k", false, false),
        TOUCH("touch", "kl", false, false),
        FLUSH_ALL("flush_all", "", false, false),
        INCR("incr", "kn", false, true),
        DECR("decr", "kn", false, true),
        UNKNOWN("", "", false, false);

        final String word;
        final String form;
        final boolean hasData;
        final boolean changesItem;

        Verb(String word, String form, boolean hasData, boolean changesItem) {
            this.word = word;
            this.form = form;
            this.hasData = hasData;
            this.changesItem = changesItem;
        }

        boolean takesSeveralKeys() {
            return this == GET || this == GETS;
        }
    }

    /** What the line says: its words, and where its data stand. */
    private static final class Command {
        static final int KEY_LIMIT = 8;
        // Which word is which: behind the key, touch, incr and decr have words of their own.
        static final int KEY = 1;
        static final int FLAGS = 2;
        static final int LIFE = 3;
        static final int BYTES = 4;
        static final int TOKEN = 5;
        static final int LIFE_OF_TOUCH = 2;
        static final int AMOUNT = 2;

        private static final Verb[] VERBS = Verb.values();
        private static final int MOST_KEYS = 3;
        /** One more than the longest command has: so many words are too many for every command. */
        private static final int WORDS_KEPT = 8;

        private final Text line;
        private final int[] starts;
        private final int[] lengths;
        private int words;
        private int commandEnd;
        private Verb verb;

        Command(Text line) {
            this.line = line;
            starts = new int[WORDS_KEPT];
            lengths = new int[WORDS_KEPT];
            words = 0;
            commandEnd = 0;
            verb = Verb.UNKNOWN;
        }

        void read() {
            commandEnd = line.firstBreak();
            splitWords();
            verb = firstVerb();
        }

        private void splitWords() {
            words = 0;
            boolean inWord = false;
            for (int i = 0; i < commandEnd; i++) {
                boolean blank = line.at(i) == Text.BLANK;
                if (!blank && !inWord && words < WORDS_KEPT) {
                    starts[words] = i;
                    lengths[words] = 0;
                    words++;
                }
                if (!blank && words > 0) {
                    lengths[words - 1]++;
                }
                inWord = !blank;
            }
        }

        private Verb firstVerb() {
            if (words > 0) {
                for (Verb known : VERBS) {
                    if (line.isWritten(start(0), length(0), known.word)) {
                        return known;
                    }
                }
            }
            return Verb.UNKNOWN;
        }

        /** The reply to a command that can't be done as it stands, or an empty text. */
        String fault() {
            if (verb == Verb.UNKNOWN) {
                return "ERROR";
            }
            if (!isWellFormed()) {
                return "CLIENT_ERROR bad command line format";
            }
            return hasFittingData() ? "" : "CLIENT_ERROR bad data chunk";
        }

        Verb verb() {
            return verb;
        }

        int words() {
            return words;
        }

        int start(int word) {
            return word >= 0 && word < words ? starts[word] : 0;
        }

        int length(int word) {
            return word >= 0 && word < words ? lengths[word] : 0;
        }

        int number(int word) {
            return line.number(start(word), length(word));
        }

        /** The time to live; all with a minus mean the same, and -0 does not mean what 0 does. */
        int life(int word) {
            return hasMinus(word) ? -1 : line.number(start(word), length(word));
        }

        int dataStart() {
            return commandEnd + 1;
        }

        /** Below 0 without a break, and so never the number of bytes. */
        int dataLength() {
            return line.length() - dataStart();
        }

        /** Only a word behind those of the form counts: among them noreply may be a key. */
        boolean hasNoreply() {
            int behindForm = verb.form.length() + 1;
            return !verb.takesSeveralKeys()
                && words == behindForm + 1
                && line.isWritten(start(behindForm), length(behindForm), "noreply");
        }

        private boolean isWellFormed() {
            if (verb.takesSeveralKeys()) {
                return hasOnlyKeys();
            }
            int formed = verb.form.length() + 1;
            if (words != formed && !hasNoreply()) {
                return false;
            }
            for (int i = 1; i < formed; i++) {
                if (!isOfKind(i, verb.form.charAt(i - 1))) {
                    return false;
                }
            }
            return true;
        }

        private boolean hasOnlyKeys() {
            if (words < 2 || words > MOST_KEYS + 1) {
                return false;
            }
            for (int i = 1; i < words; i++) {
                if (length(i) > KEY_LIMIT) {
                    return false;
                }
            }
            return true;
        }

        private boolean isOfKind(int word, char kind) {
            if (kind == 'k') {
                return length(word) <= KEY_LIMIT;
            }
            int sign = kind == 'l' && hasMinus(word) ? 1 : 0;
            return line.isNumber(start(word) + sign, length(word) - sign);
        }

        private boolean hasFittingData() {
            return verb.hasData ? dataLength() == number(BYTES) : dataLength() < 0;
        }

        private boolean hasMinus(int word) {
            return length(word) > 0 && line.at(start(word)) == '-';
        }
    }

    /** An item that is to be stored, while it has no chunk yet. */
    private static final class Draft {
        final Text key;
        final Text data;
        int flags;
        int goneAt;

        Draft() {
            key = new Text(Command.KEY_LIMIT);
            // append may join a whole chunk and a whole line before its size is looked at
            data = new Text(Memory.PAGE_CHARACTERS + LINE_LIMIT);
            flags = 0;
            goneAt = Memory.NEVER;
        }

        int size() {
            return key.length() + data.length();
        }
    }

    /** A piece of a page: room for one item, and a link of the free ones' chain or of the order. */
    private static final class Chunk {
        final Shelf shelf;
        int flags;
        int token;
        int goneAt;
        Chunk newer;
        Chunk older;
        /** The key, and the data behind it. */
        private final Text room;
        private int keyLength;

        Chunk(Shelf shelf, int characters) {
            this.shelf = shelf;
            flags = 0;
            token = 0;
            goneAt = Memory.NEVER;
            newer = null;
            older = null;
            room = new Text(characters);
            keyLength = 0;
        }

        void fill(Draft draft, int newToken) {
            room.clear();
            room.addPart(draft.key, 0, draft.key.length());
            room.addPart(draft.data, 0, draft.data.length());
            keyLength = draft.key.length();
            flags = draft.flags;
            goneAt = draft.goneAt;
            token = newToken;
        }

        boolean hasKey(Text from, int start, int count) {
            if (keyLength != count) {
                return false;
            }
            for (int i = 0; i < count; i++) {
                if (room.at(i) != from.at(start + i)) {
                    return false;
                }
            }
            return true;
        }

        int dataLength() {
            return room.length() - keyLength;
        }

        boolean isNumeric() {
            return room.isNumber(keyLength, dataLength());
        }

        int number() {
            return room.number(keyLength, dataLength());
        }

        void addKeyTo(Text to) {
            to.addPart(room, 0, keyLength);
        }

        void addDataTo(Text to) {
            to.addPart(room, keyLength, dataLength());
        }
    }

    /** A class of chunks: its pages, its free chunks, and the order of its items. */
    private static final class Shelf {
        private final int chunkCharacters;
        private final int chunksOfPage;
        private int pages;
        private int items;
        private Chunk free;
        private Chunk front;
        private Chunk back;

        Shelf(int chunkCharacters, int chunksOfPage) {
            this.chunkCharacters = chunkCharacters;
            this.chunksOfPage = chunksOfPage;
            pages = 0;
            items = 0;
            free = null;
            front = null;
            back = null;
        }

        int pages() {
            return pages;
        }

        int items() {
            return items;
        }

        int freeChunks() {
            return pages * chunksOfPage - items;
        }

        boolean takes(int size) {
            return size <= chunkCharacters;
        }

        Chunk front() {
            return front;
        }

        Chunk back() {
            return back;
        }

        void addPage() {
            pages++;
            for (int i = 0; i < chunksOfPage; i++) {
                Chunk chunk = new Chunk(this, chunkCharacters);
                chunk.older = free;
                free = chunk;
            }
        }

        /** A free chunk, now at the front of the order; null if none is free. */
        Chunk take() {
            Chunk chunk = free;
            if (chunk != null) {
                free = chunk.older;
                items++;
                linkFront(chunk);
            }
            return chunk;
        }

        void giveBack(Chunk item) {
            unlink(item);
            items--;
            item.older = free;
            free = item;
        }

        void bringToFront(Chunk item) {
            unlink(item);
            linkFront(item);
        }

        /** Item k from the front, or null if there is none. */
        Chunk itemAt(int k) {
            if (k < 0 || k >= items) {
                return null;
            }
            Chunk item = front;
            for (int i = 0; i < k && item != null; i++) {
                item = item.older;
            }
            return item;
        }

        private void linkFront(Chunk chunk) {
            chunk.newer = null;
            chunk.older = front;
            if (front == null) {
                back = chunk;
            } else {
                front.newer = chunk;
            }
            front = chunk;
        }

        private void unlink(Chunk chunk) {
            if (chunk.newer == null) {
                front = chunk.older;
            } else {
                chunk.newer.older = chunk.older;
            }
            if (chunk.older == null) {
                back = chunk.newer;
            } else {
                chunk.older.newer = chunk.newer;
            }
        }
    }

    /** The pages and all items, the time, and what is counted of them. */
    private static final class Memory {
        static final int CLASSES = 4;
        static final int PAGE_CHARACTERS = 64;
        /** Above every time: 512 calls of tick and the longest life together stay below it. */
        static final int NEVER = Integer.MAX_VALUE;
        private static final int PAGES = 6;
        private static final int SMALLEST_CHUNK = 8;

        private final Shelf[] shelves;
        private int freePages;
        private int time;
        private int tokens;
        private int evicted;
        private int expired;

        Memory() {
            shelves = new Shelf[CLASSES];
            for (int c = 0; c < CLASSES; c++) {
                int characters = SMALLEST_CHUNK << c;
                shelves[c] = new Shelf(characters, PAGE_CHARACTERS / characters);
            }
            freePages = PAGES;
            time = 0;
            tokens = 0;
            evicted = 0;
            expired = 0;
        }

        /** Only for the classes that there are. */
        Shelf shelf(int c) {
            return shelves[c];
        }

        int items() {
            int items = 0;
            for (Shelf shelf : shelves) {
                items += shelf.items();
            }
            return items;
        }

        int freePages() {
            return freePages;
        }

        int time() {
            return time;
        }

        int tokens() {
            return tokens;
        }

        int evicted() {
            return evicted;
        }

        int expired() {
            return expired;
        }

        Chunk find(Text from, int start, int count) {
            for (Shelf shelf : shelves) {
                for (Chunk item = shelf.front(); item != null; item = item.older) {
                    if (item.hasKey(from, start, count)) {
                        return item;
                    }
                }
            }
            return null;
        }

        /** When an item with this time to live is gone; with one below 0 it is gone now. */
        int goneAfter(int life) {
            if (life == 0) {
                return NEVER;
            }
            return life < 0 ? time : time + life;
        }

        /** Why an item of this size can't be stored, or an empty text if it can. */
        String refusal(int size) {
            Shelf shelf = shelfFor(size);
            if (shelf == null) {
                return "SERVER_ERROR object too large for cache";
            }
            if (shelf.pages() == 0 && freePages == 0) {
                return "SERVER_ERROR out of memory storing object";
            }
            return "";
        }

        /** Only for what has no refusal; old is the item with the draft's key, or null. */
        void put(Draft draft, Chunk old) {
            Shelf shelf = shelfFor(draft.size());
            if (shelf == null) {
                return;
            }
            takeAway(old);
            if (shelf.freeChunks() == 0 && freePages > 0) {
                freePages--;
                shelf.addPage();
            }
            if (shelf.freeChunks() == 0 && shelf.back() != null) {
                shelf.giveBack(shelf.back());
                evicted++;
            }
            Chunk item = shelf.take();
            if (item != null) {
                tokens++;
                item.fill(draft, tokens);
                takeAwayIfGone(item);
            }
        }

        void touch(Chunk item, int life) {
            item.shelf.bringToFront(item);
            item.goneAt = goneAfter(life);
            takeAwayIfGone(item);
        }

        void takeAway(Chunk item) {
            if (item != null) {
                item.shelf.giveBack(item);
            }
        }

        void takeAllAway() {
            for (Shelf shelf : shelves) {
                for (int i = shelf.items(); i > 0; i--) {
                    takeAway(shelf.back());
                }
            }
        }

        void pass(int units) {
            time += units;
            for (Shelf shelf : shelves) {
                Chunk item = shelf.front();
                while (item != null) {
                    // read before the item goes: then its links are those of the free chunks
                    Chunk next = item.older;
                    takeAwayIfGone(item);
                    item = next;
                }
            }
        }

        private void takeAwayIfGone(Chunk item) {
            if (item.goneAt <= time) {
                item.shelf.giveBack(item);
                expired++;
            }
        }

        private Shelf shelfFor(int size) {
            for (Shelf shelf : shelves) {
                if (shelf.takes(size)) {
                    return shelf;
                }
            }
            return null;
        }
    }

    /** Does what the command in the line says, and writes the answer. */
    private static final class Clerk {
        /** Three items of gets, each with what stands around it at most 96 characters, and END. */
        static final int ANSWER_LIMIT = 300;
        private static final int MODULUS = 1000000000;

        private final Text line;
        private final Text answer;
        private final Memory memory;
        private final Command command;
        private final Draft draft;
        private int hits;
        private int misses;

        Clerk(Text line, Text answer, Memory memory) {
            this.line = line;
            this.answer = answer;
            this.memory = memory;
            command = new Command(line);
            draft = new Draft();
            hits = 0;
            misses = 0;
        }

        int hits() {
            return hits;
        }

        int misses() {
            return misses;
        }

        /** Reads the line; answers what is wrong with it, if something is. */
        boolean understands() {
            command.read();
            String fault = command.fault();
            answer.addWritten(fault);
            return fault.isEmpty();
        }

        void obey() {
            switch (command.verb()) {
                case GET:
                case GETS:
                    showAll();
                    break;
                case DELETE:
                    delete();
                    break;
                case TOUCH:
                    touch();
                    break;
                case FLUSH_ALL:
                    memory.takeAllAway();
                    answer.addWritten("OK");
                    break;
                default:
                    store();
                    break;
            }
            if (command.hasNoreply()) {
                answer.clear();
            }
        }

        private Chunk find(int word) {
            return memory.find(line, command.start(word), command.length(word));
        }

        private void showAll() {
            for (int word = Command.KEY; word < command.words(); word++) {
                Chunk item = find(word);
                if (item == null) {
                    misses++;
                } else {
                    hits++;
                    item.shelf.bringToFront(item);
                    show(item);
                }
            }
            answer.addWritten("END");
        }

        private void show(Chunk item) {
            answer.addWritten("VALUE ");
            item.addKeyTo(answer);
            answer.add(Text.BLANK);
            answer.addNumber(item.flags);
            answer.add(Text.BLANK);
            answer.addNumber(item.dataLength());
            if (command.verb() == Verb.GETS) {
                answer.add(Text.BLANK);
                answer.addNumber(item.token);
            }
            answer.add(Text.BREAK);
            item.addDataTo(answer);
            answer.add(Text.BREAK);
        }

        private void delete() {
            Chunk item = find(Command.KEY);
            memory.takeAway(item);
            answer.addWritten(item == null ? "NOT_FOUND" : "DELETED");
        }

        private void touch() {
            Chunk item = find(Command.KEY);
            if (item == null) {
                answer.addWritten("NOT_FOUND");
            } else {
                memory.touch(item, command.life(Command.LIFE_OF_TOUCH));
                answer.addWritten("TOUCHED");
            }
        }

        private void store() {
            Chunk old = find(Command.KEY);
            String obstacle = obstacle(old);
            if (!obstacle.isEmpty()) {
                answer.addWritten(obstacle);
                return;
            }
            if (old != null && command.verb().changesItem) {
                prepareChange(old);
            } else {
                prepareNew();
            }
            String refusal = memory.refusal(draft.size());
            if (!refusal.isEmpty()) {
                answer.addWritten(refusal);
                return;
            }
            memory.put(draft, old);
            if (command.verb().hasData) {
                answer.addWritten("STORED");
            } else {
                answer.addPart(draft.data, 0, draft.data.length());
            }
        }

        /** What keeps the command from storing, given the item with its key; or an empty text. */
        private String obstacle(Chunk old) {
            switch (command.verb()) {
                case SET:
                    return "";
                case ADD:
                    return old == null ? "" : "NOT_STORED";
                case REPLACE:
                case APPEND:
                case PREPEND:
                    return old == null ? "NOT_STORED" : "";
                case CAS:
                    if (old == null) {
                        return "NOT_FOUND";
                    }
                    return old.token == command.number(Command.TOKEN) ? "" : "EXISTS";
                default:
                    if (old == null) {
                        return "NOT_FOUND";
                    }
                    return old.isNumeric()
                        ? "" : "CLIENT_ERROR cannot increment or decrement non-numeric value";
            }
        }

        private void prepareNew() {
            beginDraft(command.number(Command.FLAGS), memory.goneAfter(command.life(Command.LIFE)));
            addDataOfLine();
        }

        private void prepareChange(Chunk old) {
            beginDraft(old.flags, old.goneAt);
            switch (command.verb()) {
                case APPEND:
                    old.addDataTo(draft.data);
                    addDataOfLine();
                    break;
                case PREPEND:
                    addDataOfLine();
                    old.addDataTo(draft.data);
                    break;
                case INCR:
                    draft.data.addNumber((old.number() + command.number(Command.AMOUNT)) % MODULUS);
                    break;
                default:
                    draft.data.addNumber(
                        Math.max(old.number() - command.number(Command.AMOUNT), 0));
                    break;
            }
        }

        private void beginDraft(int flags, int goneAt) {
            draft.key.clear();
            draft.key.addPart(line, command.start(Command.KEY), command.length(Command.KEY));
            draft.data.clear();
            draft.flags = flags;
            draft.goneAt = goneAt;
        }

        private void addDataOfLine() {
            draft.data.addPart(line, command.dataStart(), command.dataLength());
        }
    }
}
