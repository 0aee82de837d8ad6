import java.io.IOException;
import java.nio.file.Files;
import java.nio.file.Path;
import java.util.ArrayList;
import java.util.List;
import java.util.Set;
import java.util.regex.Matcher;
import java.util.regex.Pattern;

/** A coarse look for what ../shared/LANGUAGE.md rules out; it reads the source from the working folder. */
public final class LanguageTest {
    private static final Path SOURCE = Path.of("src/main/java/Tickstation.java");

    private static final Set<String> IMPORTS = Set.of("java.util.Arrays", "java.util.NoSuchElementException");

    private static final String[] RULED_OUT = {
        "->", "::", "\\btry\\b", "\\bcatch\\b", "\\bfinally\\b", "\\bsynchronized\\b", "\\bassert\\b",
        "\\bvar\\b", "\\bnative\\b", "\\bvolatile\\b", "\\bpackage\\b", "\\bextends\\b", "Exact\\b",
        "\\bstatic\\s*\\{", "\\bequals\\b", "\\bhashCode\\b", "\\btoString\\b", "\\bprotected\\b",
        "System\\.(?!arraycopy)", "Math\\.(?!max|min)", "Arrays\\.(?!fill|copyOf\\b)",
        "Integer\\.(?!bitCount)", "\\bLong\\.", "[^\\x00-\\x7f]", "static (?!final)(int|long|char|boolean)(\\[\\])? \\w+( =|;)",
    };

    private LanguageTest() {
    }

    private static String withoutComments(String text) {
        return Pattern.compile("/\\*.*?\\*/", Pattern.DOTALL).matcher(text).replaceAll("").replaceAll("//[^\n]*", "");
    }

    private static void lookForWords(String code, List<String> wrong) {
        for (String word : RULED_OUT) {
            Matcher matcher = Pattern.compile(word).matcher(code);
            if (matcher.find()) {
                wrong.add("ruled out: " + matcher.group());
            }
        }
        Matcher imports = Pattern.compile("import ([^;]+);").matcher(code);
        while (imports.find()) {
            if (!IMPORTS.contains(imports.group(1))) {
                wrong.add("ruled out: import " + imports.group(1));
            }
        }
    }

    public static void main(String[] args) throws IOException {
        String text = Files.readString(SOURCE);
        List<String> wrong = new ArrayList<>();
        lookForWords(withoutComments(text), wrong);
        wrong.forEach(System.out::println);
        System.out.println(wrong.isEmpty() ? "nothing ruled out was seen" : wrong.size() + " faults");
        if (!wrong.isEmpty()) {
            System.exit(1);
        }
    }
}
