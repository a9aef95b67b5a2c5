import java.io.IOException;
import java.lang.reflect.InvocationTargetException;
import java.lang.reflect.Method;
import java.nio.file.Files;
import java.nio.file.Path;
import java.util.Arrays;
import java.util.Comparator;

/** Runs every method of a class that tells by Says which words it looks at. */
final class Cases {
    private static final Path DOCUMENT = Path.of("../shared/DOC.md");

    private Cases() {
    }

    static void run(Class<?> tests) {
        Checks checks = new Checks();
        String document = document();
        Method[] methods = tests.getDeclaredMethods();
        // The order in which a class tells its methods is not promised.
        Arrays.sort(methods, Comparator.comparing(Method::getName));
        for (Method method : methods) {
            Says says = method.getAnnotation(Says.class);
            if (says == null) {
                continue;
            }
            checks.begin(method.getName());
            for (String words : says.value()) {
                checks.dueText("the document", document.contains(words) ? words : "other words", words);
            }
            call(method, checks);
        }
        checks.end();
    }

    private static String document() {
        try {
            return Files.readString(DOCUMENT);
        } catch (IOException thrown) {
            throw new IllegalStateException("no document at " + DOCUMENT, thrown);
        }
    }

    private static void call(Method test, Checks checks) {
        int asked = checks.asked();
        try {
            test.invoke(null, checks);
        } catch (InvocationTargetException thrown) {
            checks.dueText("the test", "threw " + thrown.getCause(), "threw nothing");
        } catch (IllegalAccessException thrown) {
            checks.dueText("the test", "can't be called", "can be called");
        }
        checks.due("the test asks something", checks.asked() > asked ? 1 : 0, 1);
    }
}
