import java.io.IOException;
import java.lang.reflect.Method;
import java.lang.reflect.Modifier;
import java.nio.file.DirectoryStream;
import java.nio.file.Files;
import java.nio.file.Path;
import java.util.TreeSet;
import java.util.regex.Matcher;
import java.util.regex.Pattern;

/** What README.md says of the class is so: the answers of its example, its calls and its tests. */
public final class ReadmeTest {
    private static final Pattern STEP = Pattern.compile("(?:int (\\w+) = )?x\\.(\\w+)\\((.*)\\); +// (-?\\d+).*");

    public static void main(String[] args) throws IOException {
        String readme = Files.readString(Path.of("README.md"));
        example(readme);
        namesEachCall(readme);
        namesEachTest(readme);
        Check.finish();
    }

    /** Each line of the example answers the number that stands behind it. */
    private static void example(String readme) {
        String code = readme.split("```")[1];
        BoatSets x = new BoatSets();
        int steps = 0;
        for (String line : code.split("\\n")) {
            Matcher step = STEP.matcher(line.trim());
            if (step.matches()) {
                steps++;
                Check.due(line, answer(x, step.group(2), step.group(3)), Integer.parseInt(step.group(4)));
            } else {
                Check.that("each call of the example tells its answer: " + line, !line.contains("x."));
            }
        }
        Check.that("the example has steps", steps > 5);
    }

    /** Arguments are the set, which is the first one, a character or numbers. */
    private static int answer(BoatSets x, String name, String arguments) {
        String[] words = arguments.isEmpty() ? new String[0] : arguments.split(", ");
        Object[] values = new Object[words.length];
        for (int i = 0; i < words.length; i++) {
            if (words[i].startsWith("'")) {
                values[i] = words[i].charAt(1);
            } else {
                values[i] = words[i].equals("set") ? 0 : Integer.parseInt(words[i]);
            }
        }
        try {
            for (Method method : BoatSets.class.getMethods()) {
                if (method.getName().equals(name) && method.getParameterCount() == values.length) {
                    return (int) method.invoke(x, values);
                }
            }
        } catch (ReflectiveOperationException fault) {
            Check.that(name + " can be called: " + fault, false);
        }
        Check.that("there is a call " + name, false);
        return 0;
    }

    private static void namesEachCall(String readme) {
        for (Method method : BoatSets.class.getDeclaredMethods()) {
            if (method.getModifiers() == Modifier.PUBLIC) {
                Check.that("README names " + method, readme.contains("`" + method.getName() + "("));
            }
        }
    }

    private static void namesEachTest(String readme) throws IOException {
        TreeSet<String> tests = new TreeSet<>();
        try (DirectoryStream<Path> files = Files.newDirectoryStream(Path.of("src/test/java"), "*.java")) {
            for (Path file : files) {
                tests.add(file.getFileName().toString().replace(".java", ""));
            }
        }
        for (String test : tests) {
            Check.that("README names " + test, readme.contains("`" + test + "`"));
        }
    }
}
