import java.lang.reflect.InvocationTargetException;
import java.lang.reflect.Method;
import java.lang.reflect.Modifier;
import java.nio.file.Files;
import java.nio.file.Path;
import java.util.regex.Matcher;
import java.util.regex.Pattern;

/** README.md says what holds: each answer behind a call in its examples is due, and each call of the face is named. */
public final class ReadmeTest {
    private static final Checks C = new Checks();
    private static final Pattern CALL = Pattern.compile("wall\\.(\\w+)\\((.*)\\); *// (\\S+)");
    private static final String MADE = "StrokesOnWall wall = new StrokesOnWall();";

    public static void main(String[] args) throws Exception {
        String page = Files.readString(Path.of("README.md"));
        examplesHold(page);
        allCallsAreNamed(page);
        allTestsAreNamed(page);
        C.end();
    }

    private static void examplesHold(String page) throws Exception {
        StrokesOnWall wall = null;
        int examples = 0;
        boolean isJava = false;
        for (String line : page.split("\n")) {
            if (line.startsWith("```")) {
                isJava = line.equals("```java");
                wall = null;
            } else if (isJava && line.equals(MADE)) {
                wall = new StrokesOnWall();
            } else if (isJava) {
                Matcher call = CALL.matcher(line);
                boolean isCall = call.matches() && wall != null;
                C.dueText("the line " + line, isCall ? "a call with its answer" : "none", "a call with its answer");
                if (isCall) {
                    C.dueText(line, answer(wall, call.group(1), call.group(2)), call.group(3));
                    examples++;
                }
            }
        }
        C.due("there are examples", examples > 0 ? 1 : 0, 1);
    }

    private static String answer(StrokesOnWall wall, String name, String told) throws Exception {
        String[] words = told.isEmpty() ? new String[0] : told.split(", ");
        Object[] given = new Object[words.length];
        Class<?>[] types = new Class<?>[words.length];
        for (int i = 0; i < words.length; i++) {
            given[i] = words[i].charAt(0) == '\'' ? (int) words[i].charAt(1) : Integer.parseInt(words[i]);
            types[i] = int.class;
        }
        try {
            return StrokesOnWall.class.getMethod(name, types).invoke(wall, given).toString();
        } catch (InvocationTargetException thrown) {
            return thrown.getCause().getClass().getSimpleName();
        }
    }

    private static void allCallsAreNamed(String page) {
        for (Method call : StrokesOnWall.class.getDeclaredMethods()) {
            if (Modifier.isPublic(call.getModifiers())) {
                String name = "`" + call.getName() + "`";
                C.dueText("README.md names", page.contains(name) ? name : "not", name);
            }
        }
    }

    private static void allTestsAreNamed(String page) throws Exception {
        try (var files = Files.list(Path.of("src/test/java"))) {
            for (Path file : (Iterable<Path>) files::iterator) {
                String name = file.getFileName().toString().replace(".java", "");
                if (name.endsWith("Test") && !name.startsWith("Promise")) {
                    C.dueText("README.md names", page.contains("`" + name + "`") ? name : "not", name);
                }
            }
        }
    }
}
