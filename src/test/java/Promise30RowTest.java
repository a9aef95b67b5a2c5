/** Promise 30: row. */
public final class Promise30RowTest {
    public static void main(String[] args) {
        Cases.run(Promise30RowTest.class);
    }

    /** SHELF 2 holds a DAWN, SHELF 3 a ROW. */
    private static StrokesOnWall held() {
        StrokesOnWall x = Checks.walled("t2;");
        x.keep(2, 1, 7, 9);
        Checks.row(x, 3, 1, 4, 5);
        return x;
    }

    private static void refused(Checks c, int d, int sort, int n, int want) {
        String told = "row(" + d + ", " + sort + ", " + n + ")";
        c.refused(told, Promise30RowTest::held, x -> x.row(d, sort, n), want);
    }

    @Says("SHELVES 0 .. 7 each hold nothing (at first), a DAWN, a ROW.")
    static void shelvesAre0To7(Checks c) {
        StrokesOnWall x = new StrokesOnWall();
        for (int d = 0; d < 8; d++) {
            c.due("row(" + d + ", 2, 1)", x.row(d, 2, 1), 0);
            x.put(d, 0, 10 + d);
        }
        for (int d = 0; d < 8; d++) {
            c.dueText("element(" + d + ", 0)", Checks.element(x, d, 0), Integer.toString(10 + d));
        }
        for (int d : new int[] {-1, 8, Checks.MIN, Checks.MAX}) {
            refused(c, d, 0, 1, -1);
        }
    }

    @Says("A ROW has a SORT (0 bytes, 1 shorts, 2 ints)")
    static void sortsAre0To2(Checks c) {
        String[] kept = {"64", "320", "65856"};
        for (int sort = 0; sort < 3; sort++) {
            StrokesOnWall x = new StrokesOnWall();
            c.due("row(3, " + sort + ", 1)", x.row(3, sort, 1), 0);
            x.put(3, 0, 65856);
            c.dueText("element(3, 0) of SORT " + sort, Checks.element(x, 3, 0), kept[sort]);
        }
        for (int sort : new int[] {-1, 3, Checks.MIN, Checks.MAX}) {
            refused(c, 3, sort, 1, -1);
            refused(c, 4, sort, 0, -1);
        }
    }

    @Says("and 0 .. 100 elements, 0 at first;")
    static void elementsAre0To100(Checks c) {
        StrokesOnWall x = new StrokesOnWall();
        c.due("row(0, 0, 0)", x.row(0, 0, 0), 0);
        c.dueText("element(0, 0)", Checks.element(x, 0, 0), Checks.ILLEGAL_STATE);
        c.due("put(0, 0, 1)", x.put(0, 0, 1), -13);
        c.due("row(0, 0, 100)", x.row(0, 0, 100), 0);
        for (int i = 0; i < 100; i++) {
            c.dueText("element(0, " + i + ")", Checks.element(x, 0, i), "0");
        }
        c.dueText("element(0, 100)", Checks.element(x, 0, 100), Checks.ILLEGAL_STATE);
    }

    @Says({"-1 (n above 100); -14.", "A refused call changes nothing."})
    static void moreThan100AreRefused(Checks c) {
        refused(c, 3, 0, 101, -1);
        refused(c, 4, 2, 101, -1);
        refused(c, 3, 0, Checks.MAX, -1);
    }

    @Says({"-14 a size below 0;", "A refused call changes nothing."})
    static void aSizeBelow0IsRefused(Checks c) {
        refused(c, 3, 0, -1, -14);
        refused(c, 4, 2, -1, -14);
        refused(c, 2, 0, Checks.MIN, -14);
    }

    @Says({"Answers of several refusals are the first one as they are told at the call", "-1 (n above 100); -14."})
    static void outOfRangeGoesAheadOfASizeBelow0(Checks c) {
        refused(c, 8, 0, -1, -1);
        refused(c, -1, 0, -1, -1);
        refused(c, 3, 3, -1, -1);
        refused(c, 3, -1, Checks.MIN, -1);
        refused(c, 8, 3, 101, -1);
    }

    @Says("and 0 .. 100 elements, 0 at first;")
    static void elementsAre0AtFirst(Checks c) {
        StrokesOnWall x = new StrokesOnWall();
        Checks.row(x, 3, 2, 1, 2, 3);
        x.row(3, 2, 3);
        c.dueText("a ROW of the same size", Checks.elements(x, 3), "0 0 0 IllegalStateException");
        Checks.row(x, 3, 2, 1, 2, 3);
        x.row(3, 2, 1);
        x.row(3, 0, 4);
        c.dueText("a longer ROW", Checks.elements(x, 3), "0 0 0 0 IllegalStateException");
        Checks.row(x, 3, 2, 1, 2, 3);
        x.keep(3, 1, 0, 0);
        x.row(3, 1, 2);
        c.dueText("a ROW over a DAWN", Checks.elements(x, 3), "0 0 IllegalStateException");
        Checks.row(x, 3, 2, 1, 2, 3);
        x.keep(3, 0, 0, 0);
        x.row(3, 1, 2);
        c.dueText("a ROW over nothing", Checks.elements(x, 3), "0 0 IllegalStateException");
    }

    @Says("SHELF d gets a ROW of a SORT: 0.")
    static void whatWasHeldIsGone(Checks c) {
        StrokesOnWall x = held();
        c.due("row(2, 0, 0) over a DAWN", x.row(2, 0, 0), 0);
        c.due("ease(2)", x.ease(2), -12);
        c.due("comes(2)", x.comes(2), -12);
        c.due("row(3, 0, 1) over a ROW of shorts", x.row(3, 0, 1), 0);
        c.due("diary(3) of bytes", x.diary(3), -13);
        c.dueText("SHELF 3", Checks.elements(x, 3), "0 IllegalStateException");
    }
}
