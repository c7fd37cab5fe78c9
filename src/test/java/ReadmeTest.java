import java.io.ByteArrayOutputStream;
import java.io.IOException;
import java.io.PrintStream;
import java.lang.reflect.Method;
import java.lang.reflect.Modifier;
import java.nio.charset.StandardCharsets;
import java.nio.file.Files;
import java.nio.file.Path;
import java.util.List;
import java.util.stream.Collectors;
import java.util.stream.Stream;

/** What README.md says of the class and its tests is so; run from the project's folder. */
public final class ReadmeTest {
    private static final Check CHECK = new Check("ReadmeTest");
    private static final Path TESTS = Path.of("src/test/java");
    private static final String[] COMMANDS = {"set", "add", "replace", "append", "prepend", "cas",
        "get", "gets", "delete", "touch", "flush_all", "incr", "decr"};

    public static void main(String[] args) throws IOException {
        String readme = Files.readString(Path.of("README.md"));
        example(readme);
        calls(readme);
        commands(readme);
        tests(readme);
        CHECK.finish();
    }

    private static void says(String readme, String words) {
        CHECK.same("README.md says " + words, readme.contains(words), true);
    }

    /** The block of this language that stands first. */
    private static String block(String readme, String language) {
        String opening = "```" + language + "\n";
        int start = readme.indexOf(opening);
        int end = readme.indexOf("```", start + opening.length());
        return start < 0 || end < 0 ? "(none)" : readme.substring(start + opening.length(), end);
    }

    private static void example(String readme) throws IOException {
        CHECK.same("the example", block(readme, "java"), Files.readString(TESTS.resolve("Example.java")));
        CHECK.same("what it prints", block(readme, "text"), printedByExample());
    }

    private static String printedByExample() {
        PrintStream screen = System.out;
        ByteArrayOutputStream printed = new ByteArrayOutputStream();
        System.setOut(new PrintStream(printed, true, StandardCharsets.US_ASCII));
        try {
            Example.main(new String[0]);
        } finally {
            System.setOut(screen);
        }
        return printed.toString(StandardCharsets.US_ASCII).replace(System.lineSeparator(), "\n");
    }

    private static void calls(String readme) {
        says(readme, "| `new SlabPantry()` |");
        for (Method method : SlabPantry.class.getDeclaredMethods()) {
            if (Modifier.isPublic(method.getModifiers())) {
                says(readme, "| `" + method.getReturnType() + " " + method.getName() + "(");
            }
        }
    }

    private static void commands(String readme) {
        for (String command : COMMANDS) {
            CHECK.same("README.md has the command " + command,
                readme.contains("`" + command + "`") || readme.contains("`" + command + " "), true);
        }
    }

    private static void tests(String readme) throws IOException {
        says(readme, ".ci/run");
        try (Stream<Path> files = Files.list(TESTS)) {
            List<String> names = files.map(file -> file.getFileName().toString().replace(".java", ""))
                .filter(name -> name.endsWith("Test")).collect(Collectors.toList());
            for (String name : names) {
                says(readme, name);
            }
        }
    }
}
