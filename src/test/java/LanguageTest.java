import java.io.IOException;
import java.lang.reflect.Field;
import java.lang.reflect.Method;
import java.lang.reflect.Modifier;
import java.nio.file.Files;
import java.nio.file.Path;
import java.util.ArrayList;
import java.util.List;
import java.util.Set;
import java.util.regex.Matcher;
import java.util.regex.Pattern;

/** A coarse look for what ../shared/LANGUAGE.md rules out; it reads the source from the working folder. */
public final class LanguageTest {
    private static final Path SOURCE = Path.of("src/main/java/Tickstation.java");

    private static final Set<String> IMPORTS = Set.of("java.util.Arrays", "java.util.NoSuchElementException");

    private static final String[] RULED_OUT = {
        "->", "::", "\\btry\\b", "\\bcatch\\b", "\\bfinally\\b", "\\bsynchronized\\b", "\\bassert\\b",
        "\\bvar\\b", "\\bnative\\b", "\\bvolatile\\b", "\\bpackage\\b", "\\bextends\\b", "Exact\\b",
        "\\bstatic\\s*\\{", "\\bequals\\b", "\\bhashCode\\b", "\\btoString\\b", "\\bprotected\\b",
        "System\\.(?!arraycopy)", "Math\\.(?!max|min)", "Arrays\\.(?!fill|copyOf\\b)",
        "Integer\\.(?!bitCount)", "\\bLong\\.", "[^\\x00-\\x7f]", "static (?!final)(int|long|char|boolean)(\\[\\])? \\w+( =|;)",
    };

    // Rule 11.
    private static final int MOST_PARAMETERS = 7;
    private static final int MOST_LINES = 60;
    private static final int MOST_CLASSES = 12;
    private static final int MOST_FIELDS = 20;

    private LanguageTest() {
    }

    private static String withoutComments(String text) {
        return Pattern.compile("/\\*.*?\\*/", Pattern.DOTALL).matcher(text).replaceAll("").replaceAll("//[^\n]*", "");
    }

    private static void lookForWords(String code, List<String> wrong) {
        for (String word : RULED_OUT) {
            Matcher matcher = Pattern.compile(word).matcher(code);
            if (matcher.find()) {
                wrong.add("ruled out: " + matcher.group());
            }
        }
        Matcher imports = Pattern.compile("import ([^;]+);").matcher(code);
        while (imports.find()) {
            if (!IMPORTS.contains(imports.group(1))) {
                wrong.add("ruled out: import " + imports.group(1));
            }
        }
    }

    private static void lookAtSizes(List<String> wrong) {
        List<Class<?>> classes = new ArrayList<>(List.of(Tickstation.class.getDeclaredClasses()));
        classes.add(Tickstation.class);
        if (classes.size() > MOST_CLASSES) {
            wrong.add("too many classes: " + classes.size());
        }
        for (Class<?> one : classes) {
            int fields = 0;
            for (Field field : one.getDeclaredFields()) {
                fields += Modifier.isStatic(field.getModifiers()) ? 0 : 1;
            }
            if (fields > MOST_FIELDS) {
                wrong.add("too many fields: " + fields + " of " + one.getSimpleName());
            }
            for (Method method : one.getDeclaredMethods()) {
                if (method.getParameterCount() > MOST_PARAMETERS) {
                    wrong.add("too many parameters: " + method);
                }
            }
        }
    }

    /** A method stands at one level of blanks, or at two of them inside a class. */
    private static void lookAtLengths(String text, List<String> wrong) {
        String blanks = "\n( {4}| {8})";
        Matcher method = Pattern.compile(blanks + "[^ \n/*}][^\n;=]*\\([^;={]*\\{.*?\n\\1\\}", Pattern.DOTALL).matcher(text);
        int methods = 0;
        for (int at = 0; method.find(at); at = method.end()) {
            methods++;
            long lines = method.group().trim().lines().count();
            if (lines > MOST_LINES) {
                wrong.add("too long, " + lines + " lines: " + method.group().trim().lines().findFirst().orElse(""));
            }
        }
        if (methods < 80) {
            wrong.add("only " + methods + " methods were seen");
        }
    }

    public static void main(String[] args) throws IOException {
        String text = Files.readString(SOURCE);
        List<String> wrong = new ArrayList<>();
        lookForWords(withoutComments(text), wrong);
        lookAtSizes(wrong);
        lookAtLengths(text, wrong);
        wrong.forEach(System.out::println);
        System.out.println(wrong.isEmpty() ? "nothing ruled out was seen" : wrong.size() + " faults");
        if (!wrong.isEmpty()) {
            System.exit(1);
        }
    }
}
