import java.io.IOException;
import java.lang.reflect.InvocationTargetException;
import java.lang.reflect.Method;
import java.nio.charset.StandardCharsets;
import java.nio.file.Files;
import java.nio.file.Path;
import java.util.Arrays;
import java.util.Comparator;
import java.util.List;

/**
 * Runs the tests of Promise01 to Promise32, each by itself: every method with @Says is one. Numbers of promises
 * as arguments: the tests of these alone.
 */
public final class PromisesTest {
    private static final int PROMISES = 32;
    private static final Path DOCUMENT = Path.of("../shared/DOC.md");

    /** Null where there is none: then the tests run all the same. */
    private static String document = null;
    private static int tests = 0;
    private static int failed = 0;

    private PromisesTest() { }

    public static void main(String[] args) throws IOException, ReflectiveOperationException {
        if (Files.isReadable(DOCUMENT)) {
            document = withSingleBlanks(Files.readString(DOCUMENT, StandardCharsets.UTF_8));
        } else {
            System.out.println("PromisesTest: no document at " + DOCUMENT + ", its words are not looked up");
        }
        List<String> asked = List.of(args);
        for (int n = 1; n <= PROMISES; n++) {
            if (asked.isEmpty() || asked.contains(String.valueOf(n))) {
                runAll(n, Class.forName(String.format("Promise%02d", n)));
            }
        }
        if (tests == 0) {
            tell("PromisesTest", "there are no promises " + asked);
        }
        System.out.println("PromisesTest: " + tests + " tests, " + failed + " failed");
        if (failed != 0) {
            System.exit(1);
        }
    }

    private static void runAll(int promise, Class<?> of) throws ReflectiveOperationException {
        Method[] methods = of.getDeclaredMethods();
        Arrays.sort(methods, Comparator.comparing(Method::getName));
        int ran = 0;
        for (Method method : methods) {
            Says says = method.getAnnotation(Says.class);
            if (says != null) {
                run("Promise " + promise + ", " + method.getName(), method, says.value());
                ran++;
            }
        }
        if (ran == 0) {
            tell("Promise " + promise, "has no test");
        }
    }

    private static void run(String name, Method test, String sentence) throws ReflectiveOperationException {
        tests++;
        if (document != null && !document.contains(withSingleBlanks(sentence))) {
            tell(name, "the document does not say: " + sentence);
            return;
        }
        Due due = new Due(name);
        try {
            test.invoke(null, due);
        } catch (InvocationTargetException thrown) {
            tell(name, "threw " + thrown.getCause());
            return;
        }
        if (!due.holds()) {
            tell(name, "does not hold: " + sentence);
        }
    }

    private static void tell(String name, String what) {
        failed++;
        System.out.println("FAILED " + name + ": " + what);
    }

    private static String withSingleBlanks(String text) {
        return text.replaceAll("\\s+", " ");
    }
}
