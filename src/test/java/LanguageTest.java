import java.io.IOException;
import java.nio.file.Files;
import java.nio.file.Path;
import java.util.regex.Matcher;
import java.util.regex.Pattern;

/** What LANGUAGE.md leaves out does not stand in the program; run from the project's folder. */
public final class LanguageTest {
    private static final String[] LEFT_OUT = {
        "\\bpackage\\b", "\\bimport\\b", "->", "::", "\\bsynchronized\\b", "\\bassert\\b", "\\bfinally\\b",
        "\\bstatic\\s*\\{", "\\bthrow e\\b", "getMessage", "Exact\\(", "\\bextends\\b.*Exception",
        "\\bSystem\\.(?!arraycopy)", "\\bThread\\b", "\\bRandom\\b", "\\bprotected\\b", "\\bvar\\b",
        "\\bint hashCode\\(", "\\bboolean equals\\(", "\\bString toString\\(", "\" \\+ ", " \\+ \""};

    public static void main(String[] args) throws IOException {
        Check check = new Check("LanguageTest");
        String program = Files.readString(Path.of("src/main/java/SlabPantry.java"));
        String code = program.replaceAll("(?s)/\\*.*?\\*/", "").replaceAll("//.*", "");
        for (String pattern : LEFT_OUT) {
            Matcher found = Pattern.compile(pattern).matcher(code);
            check.same(pattern, found.find() ? found.group() : "", "");
        }
        // the public methods and constructor alone are public, and no static field can change
        check.same("public", code.split("\\bpublic\\b", -1).length - 1, 10);
        Matcher fields = Pattern.compile("\\bstatic (?!final\\b)[\\w\\[\\]]+ \\w+( =|;)").matcher(code);
        check.same("static fields that can change", fields.find() ? fields.group() : "", "");
        check.finish();
    }
}
