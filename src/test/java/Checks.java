/** Counts answers that are not the due ones, and helps tests to fill shelves. */
final class Checks {
    static final long APART = 1000000000L;
    static final String ILLEGAL_ARGUMENT = "IllegalArgumentException";
    static final String ILLEGAL_STATE = "IllegalStateException";

    private int asked = 0;
    private int wrong = 0;

    void due(String call, long got, long want) {
        asked++;
        if (got != want) {
            wrong++;
            System.out.println(call + " answered " + got + ", due is " + want);
        }
    }

    void dueText(String call, String got, String want) {
        asked++;
        if (!got.equals(want)) {
            wrong++;
            System.out.println(call + " answered " + got + ", due is " + want);
        }
    }

    void end() {
        System.out.println(asked + " answers asked, " + wrong + " not as due");
        if (wrong != 0 || asked == 0) {
            System.exit(1);
        }
    }

    /** A ROW of bytes with the signs of the text comes to SHELF d. */
    static void text(StrokesOnWall x, int d, String text) {
        x.row(d, 0, text.length());
        for (int i = 0; i < text.length(); i++) {
            x.put(d, i, text.charAt(i));
        }
    }

    /** A ROW of the SORT with the values comes to SHELF d. */
    static void row(StrokesOnWall x, int d, int sort, int... values) {
        x.row(d, sort, values.length);
        for (int i = 0; i < values.length; i++) {
            x.put(d, i, values[i]);
        }
    }

    /** What wall answers to the text, by SHELF 0. */
    static int wall(StrokesOnWall x, String text) {
        text(x, 0, text);
        return x.wall(0);
    }

    static StrokesOnWall walled(String text) {
        StrokesOnWall x = new StrokesOnWall();
        wall(x, text);
        return x;
    }

    /** The element told as a text, or the name of the exception. */
    static String element(StrokesOnWall x, int d, int i) {
        try {
            return Long.toString(x.element(d, i));
        } catch (RuntimeException thrown) {
            return thrown.getClass().getSimpleName();
        }
    }
}
