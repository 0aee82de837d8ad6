import java.io.IOException;
import java.lang.reflect.Constructor;
import java.lang.reflect.Field;
import java.lang.reflect.Method;
import java.lang.reflect.Modifier;
import java.nio.file.Files;
import java.nio.file.Path;
import java.util.ArrayList;
import java.util.Arrays;
import java.util.List;
import java.util.TreeSet;
import java.util.regex.Matcher;
import java.util.regex.Pattern;

/** The class has the document's face, with the exceptions in its order, and nothing else in sight. */
public final class FaceTest {
    private static final Path SOURCE = Path.of("src/main/java/Tickstation.java");
    private static final Path DOCUMENT = Path.of("../shared/DOC.md");

    private static final String[] FACE = {
        "int setClock(int,int,int,boolean) IndexOutOfBoundsException IllegalArgumentException",
        "int setTimer(int,int,int,int,char) IndexOutOfBoundsException IllegalArgumentException",
        "int link(int,int) IndexOutOfBoundsException IllegalArgumentException",
        "char setPin(int,int,char) IndexOutOfBoundsException IllegalArgumentException",
        "boolean start(int,boolean) IndexOutOfBoundsException",
        "int setLine(int,int,boolean) IndexOutOfBoundsException IllegalArgumentException",
        "int setHandler(int,int,char,int) IndexOutOfBoundsException IllegalArgumentException",
        "int setSleep(int) IllegalArgumentException",
        "boolean setWatchdog(int,int,int) IndexOutOfBoundsException IllegalArgumentException",
        "boolean request(int) IndexOutOfBoundsException",
        "boolean feed()",
        "int run(int) IllegalArgumentException",
        "int runByBeats(int) IllegalArgumentException",
        "int toEvent() NoSuchElementException",
        "int time()",
        "int ticks(int) IndexOutOfBoundsException",
        "int count(int) IndexOutOfBoundsException",
        "boolean isRunning(int) IndexOutOfBoundsException",
        "int pins()",
        "int edges()",
        "int edgeTime(int) NoSuchElementException",
        "int edgePin(int) NoSuchElementException",
        "boolean isRequested(int) IndexOutOfBoundsException",
        "char processor()",
        "int depth()",
        "int onTop() NoSuchElementException",
        "int handled(int) IndexOutOfBoundsException",
        "int late()",
        "int chained()",
        "int resets()",
        "int lastReset() NoSuchElementException",
        "long energy()",
        "float asleepShare() ArithmeticException",
        "double meanEnergy() ArithmeticException",
        "boolean isConsistent()",
    };

    private FaceTest() {
    }

    private static String told(Method method) {
        StringBuilder text = new StringBuilder();
        text.append(method.getReturnType().getSimpleName()).append(' ').append(method.getName()).append('(');
        for (int i = 0; i < method.getParameterCount(); i++) {
            text.append(i == 0 ? "" : ",").append(method.getParameterTypes()[i].getSimpleName());
        }
        text.append(')');
        for (Class<?> thrown : method.getExceptionTypes()) {
            text.append(' ').append(thrown.getSimpleName());
        }
        return text.toString();
    }

    private static void expect(List<String> wrong, boolean holds, String otherwise) {
        if (!holds) {
            wrong.add(otherwise);
        }
    }

    private static String inOneLine(String text) {
        return text.replaceAll("\\s+", " ").trim();
    }

    /** Each declaration stands in the source as in the document, with its names, and in its order. */
    private static void lookAtWords(String source, String document, List<String> wrong) {
        int from = document.indexOf("public final class Tickstation {");
        int to = document.indexOf("\n}", Math.max(0, from));
        if (from < 0 || to < 0) {
            wrong.add("the document shows no face");
            return;
        }
        int declarations = 0;
        int at = 0;
        for (String line : document.substring(from, to).split("[;\n]+")) {
            String declaration = inOneLine(line);
            if (declaration.isEmpty()) {
                continue;
            }
            declarations++;
            int found = source.indexOf(declaration.endsWith("{") ? declaration : declaration + " {", at);
            expect(wrong, found >= 0, "does not stand there, or not in order: " + declaration);
            at = Math.max(at, found);
        }
        expect(wrong, declarations == FACE.length + 2, "the document's face has " + declarations + " lines");
    }

    private static void lookAtHeadings(String source, String document, List<String> wrong) {
        Matcher told = Pattern.compile("Ahead of the calls (.*) the interface says: (---- .*)\\.").matcher(document);
        int headings = 0;
        int calls = 0;
        while (told.find()) {
            headings++;
            int begin = source.indexOf("// " + told.group(2) + " ");
            int end = source.indexOf("// ----", begin + 1);
            String part = begin < 0 ? "" : source.substring(begin, end < 0 ? source.length() : end);
            Matcher call = Pattern.compile("`(\\w+)`").matcher(told.group(1));
            int at = 0;
            while (call.find()) {
                calls++;
                int found = part.indexOf(" " + call.group(1) + "(", at);
                expect(wrong, found >= 0, call.group(1) + " does not stand behind " + told.group(2));
                at = Math.max(at, found);
            }
        }
        expect(wrong, headings == 3 && calls == FACE.length, "headings " + headings + ", calls " + calls);
    }

    public static void main(String[] args) throws IOException {
        List<String> wrong = new ArrayList<>();
        Class<Tickstation> face = Tickstation.class;
        expect(wrong, Modifier.isPublic(face.getModifiers()) && Modifier.isFinal(face.getModifiers()),
                "the class is not public and final");

        TreeSet<String> publicNames = new TreeSet<>();
        TreeSet<String> privateNames = new TreeSet<>();
        TreeSet<String> told = new TreeSet<>();
        for (Method method : face.getDeclaredMethods()) {
            if (Modifier.isPublic(method.getModifiers())) {
                told.add(told(method));
                publicNames.add(method.getName());
                expect(wrong, !Modifier.isStatic(method.getModifiers()), "static: " + method);
            } else {
                privateNames.add(method.getName());
                expect(wrong, Modifier.isPrivate(method.getModifiers()), "neither public nor private: " + method);
            }
        }
        TreeSet<String> due = new TreeSet<>(Arrays.asList(FACE));
        expect(wrong, told.equals(due), "the face is " + told + ", due is " + due);
        privateNames.retainAll(publicNames);
        expect(wrong, privateNames.isEmpty(), "private methods with public names: " + privateNames);

        for (Field field : face.getDeclaredFields()) {
            expect(wrong, Modifier.isPrivate(field.getModifiers()), "a field in sight: " + field);
            expect(wrong, Modifier.isFinal(field.getModifiers()) || !Modifier.isStatic(field.getModifiers()),
                    "a static field that is not final: " + field);
        }
        Constructor<?>[] constructors = face.getDeclaredConstructors();
        expect(wrong, constructors.length == 1 && Modifier.isPublic(constructors[0].getModifiers())
                && constructors[0].getParameterCount() == 0, "not just the one public constructor");
        for (Class<?> inner : face.getDeclaredClasses()) {
            expect(wrong, !Modifier.isPublic(inner.getModifiers()) && !Modifier.isProtected(inner.getModifiers()),
                    "a class in sight: " + inner);
        }

        String source = inOneLine(Files.readString(SOURCE));
        String document = Files.readString(DOCUMENT);
        lookAtWords(source, document, wrong);
        lookAtHeadings(source, document, wrong);

        wrong.forEach(System.out::println);
        System.out.println(wrong.isEmpty() ? "the face is as due" : wrong.size() + " faults");
        if (!wrong.isEmpty()) {
            System.exit(1);
        }
    }
}
