import java.util.function.Supplier;
import java.util.function.ToLongFunction;

/** Counts answers that are not the due ones, and helps tests to fill walls and shelves. */
final class Checks {
    static final long APART = 1000000000L;
    static final int MIN = Integer.MIN_VALUE;
    static final int MAX = Integer.MAX_VALUE;
    static final String ILLEGAL_ARGUMENT = "IllegalArgumentException";
    static final String ILLEGAL_STATE = "IllegalStateException";

    private String test = "";
    private int asked = 0;
    private int wrong = 0;

    /** The name of the test that asks from now on. */
    void begin(String name) {
        test = name + ": ";
    }

    int asked() {
        return asked;
    }

    void due(String call, long got, long want) {
        dueText(call, Long.toString(got), Long.toString(want));
    }

    void dueText(String call, String got, String want) {
        asked++;
        if (!got.equals(want)) {
            wrong++;
            System.out.println(test + call + " answered " + got + ", due is " + want);
        }
    }

    /** The call on one of two equal objects is refused so, and all that can be seen of both stays equal. */
    void refused(String call, Supplier<StrokesOnWall> made, ToLongFunction<StrokesOnWall> asking, long want) {
        StrokesOnWall x = made.get();
        StrokesOnWall twin = made.get();
        due(call, asking.applyAsLong(x), want);
        dueText(call + " and what is seen behind it", seen(x), seen(twin));
        due(call + " and restore() behind it", x.restore(), twin.restore());
        dueText(call + " and what is seen of the image", seenWall(x), seenWall(twin));
    }

    void end() {
        System.out.println(asked + " answers asked, " + wrong + " not as due");
        if (wrong != 0 || asked == 0) {
            System.exit(1);
        }
    }

    /** A ROW of bytes with the signs of the text comes to SHELF d. */
    static void text(StrokesOnWall x, int d, String text) {
        x.row(d, 0, text.length());
        for (int i = 0; i < text.length(); i++) {
            x.put(d, i, text.charAt(i));
        }
    }

    /** A ROW of the SORT with the values comes to SHELF d. */
    static void row(StrokesOnWall x, int d, int sort, int... values) {
        x.row(d, sort, values.length);
        for (int i = 0; i < values.length; i++) {
            x.put(d, i, values[i]);
        }
    }

    /** What wall answers to the text, by SHELF 0. */
    static int wall(StrokesOnWall x, String text) {
        text(x, 0, text);
        return x.wall(0);
    }

    static StrokesOnWall walled(String text) {
        StrokesOnWall x = new StrokesOnWall();
        wall(x, text);
        return x;
    }

    /** A DAWN comes so many times, by SHELF 1. */
    static void come(StrokesOnWall x, int kind, int figure, int times) {
        x.keep(1, 1, kind, figure);
        for (int i = 0; i < times; i++) {
            x.comes(1);
        }
    }

    static StrokesOnWall dawned(int kind, int figure, int times) {
        StrokesOnWall x = new StrokesOnWall();
        come(x, kind, figure, times);
        return x;
    }

    /** The element told as a text, or the name of the exception. */
    static String element(StrokesOnWall x, int d, int i) {
        try {
            return Long.toString(x.element(d, i));
        } catch (RuntimeException thrown) {
            return thrown.getClass().getSimpleName();
        }
    }

    /** All elements of a ROW in their order; for SHELVES without a ROW the name of the exception. */
    static String elements(StrokesOnWall x, int d) {
        StringBuilder told = new StringBuilder(element(x, d, 0));
        for (int i = 1; i < 100 && !told.toString().endsWith(ILLEGAL_STATE); i++) {
            told.append(' ').append(element(x, d, i));
        }
        return told.toString();
    }

    /** All that can be seen of a wall and its SHELVES, by 30 calls, 4 for each DAWN, and one for each element. */
    static String seen(StrokesOnWall x) {
        StringBuilder told = new StringBuilder(seenWall(x));
        for (int d = 0; d < 8; d++) {
            told.append(" / ").append(seenShelf(x, d));
        }
        return told.toString();
    }

    static String seenWall(StrokesOnWall x) {
        StringBuilder told = new StringBuilder();
        for (int what = 0; what < 5; what++) {
            told.append(x.count(what)).append(' ');
        }
        int dawns = x.count(0);
        for (int k = 0; k < dawns; k++) {
            told.append(": ");
            for (int what = 0; what < 4; what++) {
                told.append(x.dawn(k, what)).append(' ');
            }
        }
        return told.toString();
    }

    private static String seenShelf(StrokesOnWall x, int d) {
        int answer = x.ease(d);
        if (answer == -11) {
            return "nothing";
        }
        if (answer != -12) {
            return "ease " + answer + ", toss " + x.toss(d);
        }
        String sort = x.diary(d) != -12 ? "bytes " : x.copied(d) != -12 ? "ints " : "shorts ";
        return sort + elements(x, d);
    }
}
