import java.io.IOException;
import java.net.URL;
import java.net.URLClassLoader;
import java.nio.file.DirectoryStream;
import java.nio.file.Files;
import java.nio.file.Path;
import java.util.ArrayList;
import java.util.List;
import java.util.TreeSet;
import java.util.regex.Matcher;
import java.util.regex.Pattern;
import javax.tools.JavaCompiler;
import javax.tools.ToolProvider;

/** What README.md shows holds: each answer behind a // of its examples, and the names of the tests. */
public final class ReadmeTest {
    private static final Path README = Path.of("README.md");
    private static final Path TESTS = Path.of("src/test/java");
    private static final Path MADE = Path.of("build/readme");
    private static final int LEAST_ANSWERS = 20;

    private static int checks = 0;
    private static int wrong = 0;

    private ReadmeTest() {
    }

    /** A call of the README, as the class that is made of its examples hands it over. */
    public interface Shown {
        Object answer();
    }

    public static void due(String call, String want, Shown shown) {
        String got;
        try {
            got = String.valueOf(shown.answer());
        } catch (RuntimeException e) {
            got = "throws " + e.getClass().getSimpleName();
        }
        checks++;
        if (!got.equals(want)) {
            fault("README.md: " + call + " answered " + got + ", there stands " + want);
        }
    }

    private static void fault(String told) {
        wrong++;
        System.out.println(told);
    }

    private static List<String> all(String pattern, int group, String text) {
        List<String> found = new ArrayList<>();
        Matcher matcher = Pattern.compile(pattern, Pattern.DOTALL | Pattern.MULTILINE).matcher(text);
        while (matcher.find()) {
            found.add(matcher.group(group));
        }
        return found;
    }

    /** "call; // answer, words" or "call; // throws E: words" becomes a check; other lines stay. */
    private static String checked(String line) {
        Matcher parts = Pattern.compile("(.*);\\s*// (throws \\w+|[^,:]+).*").matcher(line);
        if (!parts.matches()) {
            return line;
        }
        String call = parts.group(1);
        return "ReadmeTest.due(\"" + call + "\", \"" + parts.group(2) + "\", () -> " + call + ");";
    }

    private static String programOf(List<String> examples) {
        StringBuilder text = new StringBuilder("public class Shown implements Runnable { public void run() {\n");
        for (String example : examples) {
            text.append("{\n");
            example.lines().forEach(line -> text.append(checked(line)).append('\n'));
            text.append("}\n");
        }
        return text.append("} }\n").toString();
    }

    private static void runExamples(String readme) throws IOException, ReflectiveOperationException {
        Files.createDirectories(MADE);
        Path program = MADE.resolve("Shown.java");
        Files.writeString(program, programOf(all("^```java\n(.*?)^```", 1, readme)));
        JavaCompiler compiler = ToolProvider.getSystemJavaCompiler();
        int failed = compiler.run(null, null, null, "-cp", System.getProperty("java.class.path"),
                "-d", MADE.toString(), program.toString());
        if (failed != 0) {
            fault("the examples of README.md do not compile");
            return;
        }
        try (URLClassLoader loader = new URLClassLoader(new URL[] {MADE.toUri().toURL()})) {
            ((Runnable) loader.loadClass("Shown").getDeclaredConstructor().newInstance()).run();
        }
        if (checks < LEAST_ANSWERS) {
            fault("only " + checks + " answers were seen in README.md");
        }
    }

    private static void lookForNames(String readme) throws IOException {
        TreeSet<String> named = new TreeSet<>(all("^- `(\\w+Test)`", 1, readme));
        TreeSet<String> there = new TreeSet<>();
        try (DirectoryStream<Path> files = Files.newDirectoryStream(TESTS, "*Test.java")) {
            for (Path file : files) {
                there.add(file.getFileName().toString().replace(".java", ""));
            }
        }
        if (!named.equals(there)) {
            fault("README.md names the tests " + named + ", there are " + there);
        }
    }

    public static void main(String[] args) throws IOException, ReflectiveOperationException {
        String readme = Files.readString(README);
        runExamples(readme);
        lookForNames(readme);
        System.out.println(checks + " answers of README.md, " + wrong + " faults");
        if (wrong != 0) {
            System.exit(1);
        }
    }
}
