/** Promise 33: copy. */
public final class Promise33CopyTest {
    public static void main(String[] args) {
        Cases.run(Promise33CopyTest.class);
    }

    /** SHELF 0 and 1 hold bytes, 2 shorts, 3 ints, 4 a DAWN, 5 nothing, 6 an empty ROW of bytes, 7 the same. */
    private static StrokesOnWall held() {
        StrokesOnWall x = new StrokesOnWall();
        Checks.row(x, 0, 0, 1, 2, 3, 4, 5);
        Checks.row(x, 1, 0, 7, 8, 9);
        Checks.row(x, 2, 1, 10, 11);
        Checks.row(x, 3, 2, 12, 13);
        x.keep(4, 1, 7, 9);
        x.row(6, 0, 0);
        x.row(7, 0, 0);
        return x;
    }

    private static void copied(Checks c, int d, int i, int e, int j, int n, String taken, String come) {
        StrokesOnWall x = held();
        String told = "copy(" + d + ", " + i + ", " + e + ", " + j + ", " + n + ")";
        c.due(told, x.copy(d, i, e, j, n), n);
        c.dueText("SHELF " + d + " behind " + told, Checks.elements(x, d), taken + " IllegalStateException");
        c.dueText("SHELF " + e + " behind " + told, Checks.elements(x, e), come + " IllegalStateException");
    }

    private static void refused(Checks c, int d, int i, int e, int j, int n, int want) {
        String told = "copy(" + d + ", " + i + ", " + e + ", " + j + ", " + n + ")";
        c.refused(told, Promise33CopyTest::held, x -> x.copy(d, i, e, j, n), want);
    }

    @Says("n elements of the ROW in SHELF d from i on come to that in SHELF e from j on: n.")
    static void fromTheBeginningToTheEnd(Checks c) {
        copied(c, 0, 0, 1, 0, 3, "1 2 3 4 5", "1 2 3");
        copied(c, 0, 2, 1, 0, 3, "1 2 3 4 5", "3 4 5");
        copied(c, 0, 4, 1, 2, 1, "1 2 3 4 5", "7 8 5");
        copied(c, 1, 0, 0, 2, 3, "7 8 9", "1 2 7 8 9");
        copied(c, 1, 1, 0, 0, 2, "7 8 9", "8 9 3 4 5");
        copied(c, 2, 0, 2, 1, 1, "10 10", "10 10");
        copied(c, 3, 1, 3, 0, 1, "13 13", "13 13");
    }

    @Says("n elements of the ROW in SHELF d from i on come to that in SHELF e from j on: n.")
    static void aHundredElements(Checks c) {
        StrokesOnWall x = new StrokesOnWall();
        x.row(0, 2, 100);
        x.put(0, 0, 5);
        x.put(0, 99, 6);
        x.row(1, 2, 100);
        c.due("copy of all", x.copy(0, 0, 1, 0, 100), 100);
        c.due("the first", x.element(1, 0), 5);
        c.due("the latest", x.element(1, 99), 6);
        c.due("copy of 101", x.copy(0, 0, 1, 0, 101), -13);
    }

    /** As if all of them were taken ahead of the first that comes. */
    @Says("n elements of the ROW in SHELF d from i on come to that in SHELF e from j on: n.")
    static void withinOneShelf(Checks c) {
        copied(c, 0, 0, 0, 1, 4, "1 1 2 3 4", "1 1 2 3 4");
        copied(c, 0, 1, 0, 0, 4, "2 3 4 5 5", "2 3 4 5 5");
        copied(c, 0, 0, 0, 0, 5, "1 2 3 4 5", "1 2 3 4 5");
        copied(c, 0, 0, 0, 3, 2, "1 2 3 1 2", "1 2 3 1 2");
    }

    @Says("-13 (n below 0, too; n 0 at the end is well).")
    static void noneAtTheEndIsWell(Checks c) {
        copied(c, 0, 5, 1, 3, 0, "1 2 3 4 5", "7 8 9");
        copied(c, 0, 0, 1, 0, 0, "1 2 3 4 5", "7 8 9");
        copied(c, 0, 5, 0, 5, 0, "1 2 3 4 5", "1 2 3 4 5");
        StrokesOnWall x = held();
        c.due("none of an empty ROW", x.copy(6, 0, 7, 0, 0), 0);
        c.due("none to an empty ROW", x.copy(0, 5, 6, 0, 0), 0);
        refused(c, 0, 6, 1, 0, 0, -13);
        refused(c, 0, 0, 1, 4, 0, -13);
        refused(c, 6, 1, 7, 0, 0, -13);
        refused(c, 0, -1, 1, 0, 0, -13);
        refused(c, 0, 0, 1, -1, 0, -13);
    }

    @Says("-13 (n below 0, too; n 0 at the end is well).")
    static void aNumberBelow0IsRefused(Checks c) {
        refused(c, 0, 0, 1, 0, -1, -13);
        refused(c, 0, 5, 1, 3, -1, -13);
        refused(c, 0, 2, 1, 2, -2, -13);
        refused(c, 0, 0, 1, 0, Checks.MIN, -13);
    }

    @Says({"-13 a place that isn't there", "A refused call changes nothing."})
    static void placesThatArentThere(Checks c) {
        refused(c, 0, -1, 1, 0, 1, -13);
        refused(c, 0, 0, 1, -1, 1, -13);
        refused(c, 0, 5, 1, 0, 1, -13);
        refused(c, 0, 0, 1, 3, 1, -13);
        refused(c, 0, 3, 1, 0, 3, -13);
        refused(c, 0, 0, 1, 1, 3, -13);
        refused(c, 0, 0, 1, 0, 4, -13);
        refused(c, 1, 0, 0, 0, 4, -13);
        refused(c, 0, 0, 6, 0, 1, -13);
        refused(c, 6, 0, 0, 0, 1, -13);
        refused(c, 0, 1, 1, 1, Checks.MAX, -13);
        refused(c, 0, Checks.MAX, 1, 0, 1, -13);
        refused(c, 0, 0, 1, Checks.MAX, 1, -13);
        refused(c, 0, Checks.MAX, 1, Checks.MAX, Checks.MAX, -13);
        refused(c, 0, Checks.MIN, 1, 0, 1, -13);
        refused(c, 0, 0, 1, Checks.MIN, 1, -13);
    }

    @Says({"-1, -11 (either), -12 (no ROWS of one SORT)", "A refused call changes nothing."})
    static void refusals(Checks c) {
        for (int d : new int[] {-1, 8, Checks.MIN, Checks.MAX}) {
            refused(c, d, 0, 1, 0, 1, -1);
            refused(c, 0, 0, d, 0, 1, -1);
        }
        refused(c, 5, 0, 1, 0, 1, -11);
        refused(c, 0, 0, 5, 0, 1, -11);
        refused(c, 5, 0, 5, 0, 0, -11);
        refused(c, 4, 0, 0, 0, 1, -12);
        refused(c, 0, 0, 4, 0, 1, -12);
        refused(c, 4, 0, 4, 0, 0, -12);
    }

    @Says("-12 (no ROWS of one SORT)")
    static void rowsOfTwoSortsAreRefused(Checks c) {
        refused(c, 0, 0, 2, 0, 1, -12);
        refused(c, 2, 0, 0, 0, 1, -12);
        refused(c, 0, 0, 3, 0, 1, -12);
        refused(c, 3, 0, 0, 0, 1, -12);
        refused(c, 2, 0, 3, 0, 1, -12);
        refused(c, 3, 0, 2, 0, 1, -12);
        refused(c, 6, 0, 2, 0, 0, -12);
    }

    @Says({"Answers of several refusals are the first one as they are told at the call",
        "-1, -11 (either), -12 (no ROWS of one SORT), -13"})
    static void theFirstRefusalIsTold(Checks c) {
        // No such SHELF, ahead of nothing, of another kind, and of a place.
        refused(c, 8, 0, 5, 0, 1, -1);
        refused(c, 5, 0, 8, 0, 1, -1);
        refused(c, 4, 0, -1, 0, 1, -1);
        refused(c, 0, -1, 8, -1, -1, -1);
        // Nothing, ahead of another kind and of a place.
        refused(c, 4, 0, 5, 0, 1, -11);
        refused(c, 5, 0, 4, 0, 1, -11);
        refused(c, 0, -1, 5, 0, -1, -11);
        refused(c, 5, 9, 0, 9, 9, -11);
        // Another kind, ahead of a place.
        refused(c, 4, -1, 0, -1, -1, -12);
        refused(c, 0, 9, 4, 9, 9, -12);
        refused(c, 0, 0, 2, 0, -1, -12);
        refused(c, 3, 9, 2, 9, 1, -12);
    }
}
