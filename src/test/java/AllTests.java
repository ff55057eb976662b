import java.lang.reflect.InvocationTargetException;
import java.lang.reflect.Method;
import java.lang.reflect.Modifier;
import java.util.Arrays;
import java.util.Comparator;

/** Runs every test: each static method whose name starts with promise or rule. */
public final class AllTests {

    private static final Class<?>[] TESTS = {
        HarbourTest.class, VoyageTest.class, NightsTest.class, QuestionsTest.class, ForecastTest.class,
        NightEdgesTest.class, AnswerEdgesTest.class, RefusalTest.class, FaceTest.class, LanguageTest.class,
        ReadmeTest.class, RandomRunsTest.class,
    };

    private static int passed;
    private static int failed;

    private AllTests() {
    }

    public static void main(String[] arguments) throws IllegalAccessException {
        boolean[] tested = new boolean[43];
        for (Class<?> test : TESTS) {
            Method[] methods = test.getDeclaredMethods();
            Arrays.sort(methods, Comparator.comparing(Method::getName));
            for (Method method : methods) {
                if (isTest(method)) {
                    run(test, method);
                    notePromise(method.getName(), tested);
                }
            }
        }
        for (int promise = 1; promise < tested.length; promise++) {
            if (!tested[promise]) {
                failed++;
                System.out.println("promise " + promise + " has no test");
            }
        }
        System.out.println(passed + " passed, " + failed + " failed");
        if (failed != 0) {
            System.exit(1);
        }
    }

    private static boolean isTest(Method method) {
        String name = method.getName();
        return Modifier.isStatic(method.getModifiers()) && method.getParameterCount() == 0
            && (name.startsWith("promise") || name.startsWith("rule"));
    }

    private static void notePromise(String name, boolean[] tested) {
        if (name.startsWith("promise")) {
            int promise = Integer.parseInt(name.substring(7, 9));
            tested[promise] = true;
        }
    }

    private static void run(Class<?> test, Method method) throws IllegalAccessException {
        try {
            method.invoke(null);
            passed++;
        } catch (InvocationTargetException e) {
            failed++;
            System.out.println(test.getName() + "." + method.getName() + ": " + e.getCause());
            if (!(e.getCause() instanceof AssertionError)) {
                e.getCause().printStackTrace(System.out);
            }
        }
    }
}
