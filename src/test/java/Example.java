/** How a pantry is used; README.md shows this file and what it prints. */
public final class Example {
    public static void main(String[] args) {
        SlabPantry pantry = new SlabPantry();
        System.out.println(say(pantry, "set tea 7 30 3\nxyz"));
        System.out.println(say(pantry, "set cups 0 0 2\n41"));
        System.out.println(say(pantry, "incr cups 1"));
        System.out.println(say(pantry, "gets tea milk"));

        System.out.println("items of class 0: " + pantry.slab(0, 1));
        System.out.println("its free chunks: " + pantry.slab(0, 2));
        System.out.println("token at the front of its order: " + pantry.order(0, 0));
        System.out.println("token behind it: " + pantry.order(0, 1));

        pantry.tick(30);
        System.out.println(say(pantry, "get tea"));
        System.out.println("time: " + pantry.figure(2));
        System.out.println("taken away because their time had come: " + pantry.figure(5));
    }

    /** Writes the line, sends it, and reads the reply; the line has at most 140 characters. */
    static String say(SlabPantry pantry, String line) {
        for (int start = 0; start < line.length(); start += 8) {
            pantry.write(packed(line, start, Math.min(start + 8, line.length())));
        }
        int length = pantry.send();
        StringBuilder reply = new StringBuilder();
        for (int i = 0; i < length; i++) {
            reply.append(pantry.reply(i));
        }
        return reply.toString();
    }

    /** Up to eight characters in the bytes of a long, the first one in the lowest byte. */
    static long packed(String line, int start, int end) {
        long characters = 0;
        for (int i = end - 1; i >= start; i--) {
            characters = characters << 8 | line.charAt(i);
        }
        return characters;
    }
}
