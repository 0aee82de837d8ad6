import java.io.IOException;
import java.lang.reflect.InvocationTargetException;
import java.lang.reflect.Method;
import java.util.ArrayList;
import java.util.Arrays;
import java.util.Comparator;
import java.util.List;

/**
 * One case for each boundary that a sentence of the document names. A case quotes the words that it
 * holds the program to; this test fails too if they do not stand in the document under that promise,
 * or if a sentence there is quoted by none. A case with a Way is run in each of the ways.
 */
public final class BoundaryTest {
    private static final Class<?>[] CASES = {
        ClockCases.class, TimerCases.class, PinCases.class, LineCases.class, HandlerCases.class,
        ProcessorCases.class, SleepCases.class, WatchdogCases.class, GoingCases.class, EnergyCases.class,
    };

    private BoundaryTest() {
    }

    private static List<Method> casesOf(Class<?> group) {
        List<Method> cases = new ArrayList<>();
        for (Method method : group.getDeclaredMethods()) {
            if (method.isAnnotationPresent(Says.class)) {
                cases.add(method);
            }
        }
        cases.sort(Comparator.comparing(Method::getName));
        return cases;
    }

    private static void runCase(Method method, Object... arguments) {
        Says says = method.getAnnotation(Says.class);
        String ways = arguments.length == 0 ? "" : " " + Arrays.toString(arguments);
        Bench.begin("promise " + says.promise() + ", " + method.getDeclaringClass().getName() + "."
                + method.getName() + ways + " (" + says.words() + ")");
        try {
            method.invoke(null, arguments);
        } catch (InvocationTargetException e) {
            Bench.fail("threw " + e.getCause());
        } catch (IllegalAccessException e) {
            Bench.fail("can't be called");
        }
    }

    public static void main(String[] args) throws IOException {
        Document document = new Document();
        int cases = 0;
        for (Class<?> group : CASES) {
            for (Method method : casesOf(group)) {
                cases++;
                Says says = method.getAnnotation(Says.class);
                if (!document.quote(says.promise(), says.words())) {
                    Bench.fail(method + " quotes what does not stand there: " + says.words());
                }
                if (method.getParameterCount() == 0) {
                    runCase(method);
                    continue;
                }
                for (Way way : Way.values()) {
                    runCase(method, way);
                }
            }
        }
        Bench.begin("the document");
        for (String sentence : document.unquoted()) {
            Bench.fail("no case for " + sentence);
        }
        System.out.println(cases + " cases for " + document.size() + " sentences, " + Bench.checks()
                + " answers, " + Bench.wrong() + " of them not as due");
        if (Bench.wrong() != 0) {
            System.exit(1);
        }
    }
}
