import java.lang.reflect.Constructor;
import java.lang.reflect.Field;
import java.lang.reflect.InvocationTargetException;
import java.lang.reflect.Method;
import java.lang.reflect.Modifier;
import java.nio.file.Files;
import java.nio.file.Path;
import java.util.ArrayList;
import java.util.Arrays;
import java.util.List;
import java.util.TreeSet;

/** The face is the document's, no call throws but element, and the source keeps to what can be seen of LANGUAGE.md. */
public final class FaceTest {
    private static final Checks C = new Checks();
    private static final String SOURCE = "src/main/java/StrokesOnWall.java";
    private static final int CALLS = 300;

    private static final String[] FACE = {
        "int wall(int)", "int dawn(int,int)", "int off(int)", "int comes(int)", "int back()", "int week(int)",
        "int entry(int,int)", "long chance(int,int,int,int)", "long odds(int,int,int,int,int)",
        "int date(int,int,int,int)", "int next(int,int,int,int)", "long lost(int,int,int,int,int)",
        "int joined(int,int)", "int copied(int)", "int events(int)", "int rule(int,int,int,int)",
        "int bestRule(int,int,int)", "int moon(int)", "int dates(int,int,int,int,int)", "int star(int,int,int)",
        "int wakings(int,int,int)", "long guard(int,int,int,int)", "int diary(int)", "int judge(int)", "int image()",
        "int restore()", "int count(int)", "int keep(int,int,int,int)", "int row(int,int,int)",
        "int put(int,int,int)", "long element(int,int)", "int copy(int,int,int,int,int)", "int ease(int)",
        "int toss(int)"};

    public static void main(String[] args) throws Exception {
        faceIsTheDocuments();
        membersAreHidden();
        noCallThrows();
        sourceKeepsToTheLanguage();
        C.end();
    }

    private static String told(Method m) {
        StringBuilder b = new StringBuilder(m.getReturnType().getName()).append(' ').append(m.getName()).append('(');
        for (Class<?> type : m.getParameterTypes()) {
            b.append(b.charAt(b.length() - 1) == '(' ? "" : ",").append(type.getName());
        }
        return b.append(')').toString();
    }

    private static void faceIsTheDocuments() {
        TreeSet<String> open = new TreeSet<>();
        for (Method m : StrokesOnWall.class.getDeclaredMethods()) {
            if (!Modifier.isPrivate(m.getModifiers()) && !m.isSynthetic()) {
                open.add(told(m));
                C.due(m.getName() + " is public alone", m.getModifiers(), Modifier.PUBLIC);
            }
        }
        C.dueText("the methods", open.toString(), new TreeSet<>(Arrays.asList(FACE)).toString());
        Constructor<?>[] made = StrokesOnWall.class.getDeclaredConstructors();
        C.due("constructors", made.length, 1);
        C.due("the constructor is public", made[0].getModifiers(), Modifier.PUBLIC);
        C.due("its parameters", made[0].getParameterCount(), 0);
        C.due("the class is public and final", StrokesOnWall.class.getModifiers(), Modifier.PUBLIC | Modifier.FINAL);
        C.due("fields to be seen", StrokesOnWall.class.getFields().length, 0);
    }

    private static void membersAreHidden() throws Exception {
        for (Field f : StrokesOnWall.class.getDeclaredFields()) {
            C.due(f.getName() + " is private", Modifier.isPrivate(f.getModifiers()) ? 1 : 0, 1);
            C.due(f.getName() + " is final, if static", Modifier.isStatic(f.getModifiers())
                && !Modifier.isFinal(f.getModifiers()) ? 1 : 0, 0);
        }
        TreeSet<String> names = new TreeSet<>();
        for (String call : FACE) {
            names.add(call.substring(call.indexOf(' ') + 1, call.indexOf('(')));
        }
        List<Class<?>> all = new ArrayList<>(Arrays.asList(StrokesOnWall.class.getDeclaredClasses()));
        for (Class<?> inside : all) {
            C.due(inside.getName() + " is static", Modifier.isStatic(inside.getModifiers()) ? 1 : 0, 1);
            C.due(inside.getName() + " is hidden", inside.getModifiers() & (Modifier.PUBLIC | Modifier.PROTECTED), 0);
            for (Method m : inside.getDeclaredMethods()) {
                C.due(m + " has a name of its own", names.contains(m.getName()) ? 1 : 0, 0);
                C.due(m + " has few parameters", m.getParameterCount() > 7 ? 1 : 0, 0);
            }
        }
        all.add(StrokesOnWall.class);
        C.due("classes", all.size() > 13 ? 1 : 0, 0);
        for (Method m : StrokesOnWall.class.getDeclaredMethods()) {
            boolean taken = Modifier.isPrivate(m.getModifiers()) && names.contains(m.getName());
            C.due(m + " has a name of its own", taken ? 1 : 0, 0);
        }
    }

    /** A wall with something of all kinds on shelves and behind: no SHELF 7 is filled. */
    private static StrokesOnWall filled() {
        StrokesOnWall x = Checks.walled("d10;d29;d64;d79;k3;");
        x.image();
        x.keep(1, 1, 7, 9);
        Checks.row(x, 2, 2, 3, 1, -5, 2);
        Checks.row(x, 3, 0, 7, 6, 2);
        Checks.row(x, 4, 1, 1, 1, 3);
        x.row(5, 0, 100);
        Checks.row(x, 6, 0, 0, 3);
        return x;
    }

    private static void noCallThrows() throws Exception {
        int[] values = {0, 1, 2, 3, 5, 7, 8, 12, 40, 100, -1, Integer.MAX_VALUE, Integer.MIN_VALUE};
        for (Method m : StrokesOnWall.class.getDeclaredMethods()) {
            if (!Modifier.isPublic(m.getModifiers())) {
                continue;
            }
            int places = m.getParameterCount();
            int runs = 1;
            for (int i = 0; i < places; i++) {
                runs *= values.length;
            }
            StrokesOnWall x = filled();
            int wrong = 0;
            for (int run = 0; run < runs; run++) {
                Object[] given = new Object[places];
                int rest = run;
                for (int i = 0; i < places; i++) {
                    given[i] = values[rest % values.length];
                    rest /= values.length;
                }
                if (run % CALLS == CALLS - 1) {
                    x = run / CALLS % 2 == 0 ? filled() : new StrokesOnWall();
                }
                wrong += answers(m, x, given) ? 0 : 1;
            }
            C.due("calls of " + m.getName() + " that throw what they may not", wrong, 0);
        }
    }

    private static boolean answers(Method m, StrokesOnWall x, Object[] given) throws Exception {
        try {
            m.invoke(x, given);
            return true;
        } catch (InvocationTargetException thrown) {
            Class<?> kind = thrown.getCause().getClass();
            return m.getName().equals("element")
                && (kind == IllegalArgumentException.class || kind == IllegalStateException.class);
        }
    }

    private static void sourceKeepsToTheLanguage() throws Exception {
        String source = Files.readString(Path.of(SOURCE));
        String[] forbidden = {"package ", "import ", "synchronized", "assert ", "finally", "->", "::", "System.out",
            "currentTimeMillis", "nanoTime", "Exact(", "@Override", "Object", "while (true)", "for (;;)", "\t",
            "getMessage", "ArrayIndexOutOfBounds", "NullPointer", "ClassCast", "NegativeArraySize", "ArrayStore",
            "catch (RuntimeException", "catch (Exception", "catch (Throwable", "Byte.", "Short.", "Character.",
            "Integer.", "Long."};
        for (String word : forbidden) {
            C.due("the source has " + word.trim(), source.contains(word) ? 1 : 0, 0);
        }
        for (int i = 0; i < source.length(); i++) {
            char sign = source.charAt(i);
            if (sign != '\n' && (sign < 32 || sign > 126)) {
                C.due("a strange sign in the source", sign, ' ');
            }
        }
    }
}
