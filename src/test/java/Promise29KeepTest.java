/** Promise 29: keep. */
public final class Promise29KeepTest {
    public static void main(String[] args) {
        Cases.run(Promise29KeepTest.class);
    }

    /** SHELF 2 holds a MENDED DAWN, SHELF 3 a ROW. */
    private static StrokesOnWall held() {
        StrokesOnWall x = Checks.walled("t2;");
        x.keep(2, 1, 7, 9);
        Checks.row(x, 3, 1, 4, 5);
        return x;
    }

    private static void refused(Checks c, int d, int what, int k, int figure) {
        String told = "keep(" + d + ", " + what + ", " + k + ", " + figure + ")";
        c.refused(told, Promise29KeepTest::held, x -> x.keep(d, what, k, figure), -1);
    }

    @Says({"SHELVES 0 .. 7 each hold nothing (at first), a DAWN, a ROW.", "A refused call changes nothing."})
    static void shelvesAre0To7(Checks c) {
        StrokesOnWall x = new StrokesOnWall();
        for (int d = 0; d < 8; d++) {
            c.due("keep(" + d + ", 1, 4, " + d + ")", x.keep(d, 1, 4, d), 0);
        }
        for (int d = 0; d < 8; d++) {
            c.due("ease(" + d + ")", x.ease(d), d);
        }
        for (int d : new int[] {-1, 8, Checks.MIN, Checks.MAX}) {
            refused(c, d, 1, 0, 0);
            refused(c, d, 0, 0, 0);
        }
    }

    @Says("what = 0 nothing (the others do not matter);")
    static void theOthersDoNotMatter(Checks c) {
        int[][] others = {{0, 0}, {-1, -1}, {8, 10}, {Checks.MIN, Checks.MAX}};
        for (int[] other : others) {
            StrokesOnWall x = held();
            c.due("keep(2, 0, ..)", x.keep(2, 0, other[0], other[1]), 0);
            c.due("ease(2)", x.ease(2), -11);
            c.due("keep(3, 0, ..)", x.keep(3, 0, other[0], other[1]), 0);
            c.due("judge(3)", x.judge(3), -11);
            c.due("keep(4, 0, ..)", x.keep(4, 0, other[0], other[1]), 0);
            c.due("ease(4)", x.ease(4), -11);
        }
    }

    @Says({"SHELF d gets: what = 0 nothing (the others do not matter); 1 a DAWN", "A refused call changes nothing."})
    static void whatIs0Or1(Checks c) {
        for (int what : new int[] {-1, 2, Checks.MIN, Checks.MAX}) {
            refused(c, 2, what, 0, 0);
        }
    }

    @Says({"of KINDS: 0 STROKE;", "A refused call changes nothing."})
    static void kindsAre0To7(Checks c) {
        StrokesOnWall x = new StrokesOnWall();
        c.due("keep(0, 1, 0, 5)", x.keep(0, 1, 0, 5), 0);
        c.due("comes(0)", x.comes(0), 0);
        c.due("keep(0, 1, 7, 5)", x.keep(0, 1, 7, 5), 0);
        c.due("comes(0)", x.comes(0), 2);
        c.due("dawn(0, 0)", x.dawn(0, 0), 0);
        c.due("dawn(1, 0)", x.dawn(1, 0), 7);
        for (int k : new int[] {-1, 8, Checks.MIN, Checks.MAX}) {
            refused(c, 2, 1, k, 0);
        }
    }

    @Says({"7 MENDED under TRUE: a FIGURE (0 .. 9).", "A refused call changes nothing."})
    static void figuresAre0To9(Checks c) {
        StrokesOnWall x = new StrokesOnWall();
        c.due("keep(0, 1, 4, 0)", x.keep(0, 1, 4, 0), 0);
        c.due("comes(0)", x.comes(0), 0);
        c.due("keep(0, 1, 4, 9)", x.keep(0, 1, 4, 9), 0);
        c.due("comes(0)", x.comes(0), 9);
        for (int figure : new int[] {-1, 10, Checks.MIN, Checks.MAX}) {
            refused(c, 2, 1, 0, figure);
        }
        refused(c, 8, 2, 8, 10);
    }

    @Says("SHELF d gets: what = 0 nothing (the others do not matter); 1 a DAWN of KIND k with a FIGURE: 0. -1.")
    static void whatWasHeldIsGone(Checks c) {
        StrokesOnWall x = held();
        c.due("keep(3, 1, 1, 4) over a ROW", x.keep(3, 1, 1, 4), 0);
        c.due("ease(3)", x.ease(3), 3);
        c.due("put(3, 0, 1)", x.put(3, 0, 1), -12);
        c.dueText("element(3, 0)", Checks.element(x, 3, 0), Checks.ILLEGAL_STATE);
        c.due("keep(2, 1, 6, 1) over a DAWN", x.keep(2, 1, 6, 1), 0);
        c.due("ease(2)", x.ease(2), 4);
        c.due("toss(2)", x.toss(2), 1);
        c.due("keep(2, 0, 0, 0)", x.keep(2, 0, 0, 0), 0);
        c.due("toss(2) of nothing", x.toss(2), -11);
    }
}
