/** Promise 32: element. */
public final class Promise32ElementTest {
    public static void main(String[] args) {
        Cases.run(Promise32ElementTest.class);
    }

    private static StrokesOnWall held() {
        StrokesOnWall x = Checks.walled("t2;");
        x.keep(2, 1, 7, 9);
        Checks.row(x, 3, 1, 4, -5);
        x.row(4, 2, 0);
        return x;
    }

    private static void element(Checks c, int d, int i, String want) {
        StrokesOnWall x = held();
        String was = Checks.seen(x);
        c.dueText("element(" + d + ", " + i + ")", Checks.element(x, d, i), want);
        c.dueText("all behind element(" + d + ", " + i + ")", Checks.seen(x), was);
    }

    @Says("IllegalArgumentException: no such SHELF;")
    static void shelvesAre0To7(Checks c) {
        for (int d : new int[] {-1, 8, Checks.MIN, Checks.MAX}) {
            element(c, d, 0, Checks.ILLEGAL_ARGUMENT);
        }
        for (int d : new int[] {0, 7}) {
            StrokesOnWall x = new StrokesOnWall();
            Checks.row(x, d, 2, 6);
            c.dueText("element(" + d + ", 0)", Checks.element(x, d, 0), "6");
        }
    }

    @Says("IllegalStateException: no ROW, no such place.")
    static void thereIsNoRow(Checks c) {
        element(c, 5, 0, Checks.ILLEGAL_STATE);
        element(c, 2, 0, Checks.ILLEGAL_STATE);
        StrokesOnWall x = held();
        x.keep(3, 1, 0, 0);
        c.dueText("element(3, 0) of a DAWN over a ROW", Checks.element(x, 3, 0), Checks.ILLEGAL_STATE);
        x.keep(3, 0, 0, 0);
        c.dueText("element(3, 0) of nothing", Checks.element(x, 3, 0), Checks.ILLEGAL_STATE);
    }

    @Says("IllegalStateException: no ROW, no such place.")
    static void thereIsNoSuchPlace(Checks c) {
        element(c, 3, 0, "4");
        element(c, 3, 1, "-5");
        for (int i : new int[] {-1, 2, 99, 100, Checks.MIN, Checks.MAX}) {
            element(c, 3, i, Checks.ILLEGAL_STATE);
        }
        element(c, 4, 0, Checks.ILLEGAL_STATE);
        element(c, 4, -1, Checks.ILLEGAL_STATE);
        StrokesOnWall x = new StrokesOnWall();
        x.row(7, 0, 100);
        c.dueText("element(7, 99)", Checks.element(x, 7, 99), "0");
        c.dueText("element(7, 100)", Checks.element(x, 7, 100), Checks.ILLEGAL_STATE);
    }

    @Says({"Answers of several refusals are the first one as they are told at the call",
        "IllegalArgumentException: no such SHELF; IllegalStateException: no ROW, no such place."})
    static void noSuchShelfGoesAhead(Checks c) {
        element(c, 8, -1, Checks.ILLEGAL_ARGUMENT);
        element(c, -1, 100, Checks.ILLEGAL_ARGUMENT);
    }

    @Says("`long element(int d, int i) throws IllegalArgumentException, IllegalStateException`: Element i of the ROW.")
    static void theLeastAndTheGreatestOfEachSort(Checks c) {
        int[] least = {-128, -32768, Checks.MIN};
        int[] greatest = {127, 32767, Checks.MAX};
        for (int sort = 0; sort < 3; sort++) {
            StrokesOnWall x = new StrokesOnWall();
            Checks.row(x, 1, sort, least[sort], greatest[sort]);
            c.due("the least of SORT " + sort, x.element(1, 0), least[sort]);
            c.due("the greatest of SORT " + sort, x.element(1, 1), greatest[sort]);
        }
    }
}
