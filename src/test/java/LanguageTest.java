import java.io.IOException;
import java.nio.file.Files;
import java.nio.file.Path;
import java.util.List;
import java.util.regex.Matcher;
import java.util.regex.Pattern;

/**
 * What LANGUAGE.md forbids and can be seen from the words of the source alone. The
 * class needs nothing of the library, so any import or library name is refused too.
 */
final class LanguageTest {
    private static final List<String> FORBIDDEN = List.of(
        "\\bpackage\\b", "\\bimport\\b", "->", "::", "\\bthrows?\\b", "\\btry\\b", "\\bcatch\\b",
        "\\bsynchronized\\b", "\\bassert\\b", "\\bprotected\\b", "\\bstatic\\s*\\{", "\\bjava\\.",
        "\\b(Math|System|Thread|Runtime|Object|String|Integer|Arrays)\\b");

    public static void main(String[] args) throws IOException {
        String source = Files.readString(Path.of("src/main/java/RingDriver.java"));
        Check.due("characters beyond ASCII", source.chars().anyMatch(c -> c > 126), false);
        String code = withoutComments(source);
        Check.due("the class is in it", code.contains("public final class RingDriver {"), true);
        for (String words : FORBIDDEN) {
            Matcher found = Pattern.compile(words).matcher(code);
            Check.due("forbidden " + words, found.find(), false);
        }
        Check.end();
    }

    private static String withoutComments(String source) {
        return source.replaceAll("(?s)/\\*.*?\\*/", " ").replaceAll("//[^\n]*", " ");
    }
}
