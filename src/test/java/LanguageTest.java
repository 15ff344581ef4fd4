import java.io.IOException;
import java.nio.charset.StandardCharsets;
import java.nio.file.Files;
import java.nio.file.Path;
import java.util.regex.Matcher;
import java.util.regex.Pattern;

/** What can be seen of LANGUAGE.md's rules in the words of the program alone. */
public final class LanguageTest {
    private static final String[] FORBIDDEN = {
        "\\bthrow\\b", "\\bthrows\\b", "\\btry\\b", "\\bcatch\\b", "\\bsynchronized\\b", "\\bassert\\b",
        "->", "::", "\\bpackage\\b", "\\bprotected\\b", "\\bThread\\b", "\\bRandom\\b", "\\bSystem\\.(?!arraycopy)",
        "\\w+Exact\\b", "\\bhashCode\\b", "\\btoString\\b", "\\bequals\\b", "\\binstanceof\\b",
        "^import (?!java\\.util\\.(Arrays|ArrayList|List|Iterator);)", "static \\{"};

    public static void main(String[] args) throws IOException {
        String whole = Files.readString(Path.of("src/main/java/BoatSets.java"), StandardCharsets.UTF_8);
        for (int i = 0; i < whole.length(); i++) {
            Check.that("sign " + i, whole.charAt(i) >= 1 && whole.charAt(i) <= 127);
        }
        String code = Pattern.compile("/\\*.*?\\*/|//[^\\n]*", Pattern.DOTALL).matcher(whole).replaceAll("");
        for (String words : FORBIDDEN) {
            Matcher found = Pattern.compile(words, Pattern.MULTILINE).matcher(code);
            Check.that("no " + words, !found.find());
        }
        roomIsMadeByConstructors(code);
        Check.finish();
    }

    /** Every 'new' stands in a constructor: the line that opened its method starts with a class's name. */
    private static void roomIsMadeByConstructors(String code) {
        boolean inConstructor = false;
        for (String line : code.split("\\n")) {
            if (line.matches("( {4}| {8})[A-Za-z].*\\) \\{") && !line.contains("class ")) {
                inConstructor = line.matches("( {4}| {8})(public )?[A-Z]\\w*\\(\\) \\{");
            }
            if (line.contains("new ")) {
                Check.that("made by a constructor: " + line.trim(), inConstructor);
            }
        }
    }
}
