import java.util.Arrays;

/** Promise 25: judge. */
public final class Promise25JudgeTest {
    private static final int D = 6;
    private static final String WALL = "d10;d20;d30;d45;";
    private static final int[] LEAST = {-128, -32768, Integer.MIN_VALUE};

    public static void main(String[] args) {
        Cases.run(Promise25JudgeTest.class);
    }

    private static void judged(Checks c, String wall, int sort, int want, int... told) {
        StrokesOnWall x = Checks.walled(wall);
        Checks.row(x, D, sort, told);
        c.due("judge of " + Arrays.toString(told) + " of SORT " + sort, x.judge(D), want);
    }

    @Says("JUDGED: a ROW: THOUGHT behind DAWN 0, 1, ..: the first that isn't so")
    static void theFirstThatIsntSo(Checks c) {
        for (int sort = 0; sort < 3; sort++) {
            judged(c, WALL, sort, -4, 1, 1, 3, 8);
            judged(c, WALL, sort, 0, 0, 1, 3, 8);
            judged(c, WALL, sort, 0, 2, 2, 2, 2);
            judged(c, WALL, sort, 1, 1, 0, 3, 9);
            judged(c, WALL, sort, 3, 1, 1, 3, 9);
            judged(c, WALL, sort, 3, 1, 1, 3, -8);
        }
    }

    @Says("(the least number of the SORT is skipped)")
    static void theLeastNumberOfTheSortIsSkipped(Checks c) {
        for (int sort = 0; sort < 3; sort++) {
            int skip = LEAST[sort];
            judged(c, WALL, sort, -4, skip, skip, skip, skip);
            judged(c, WALL, sort, -4, skip, 1, skip, 8);
            judged(c, WALL, sort, 1, skip, 2, skip, 8);
            judged(c, WALL, sort, 0, skip + 1, 1, 3, 8);
            judged(c, WALL, sort, 3, 1, 1, 3, skip + 1);
        }
        judged(c, WALL, 1, 1, 1, -128, 3, 8);
        judged(c, WALL, 2, 1, 1, -32768, 3, 8);
        judged(c, WALL, 2, 1, 1, -128, 3, 8);
        // The greatest number and one more is the least.
        judged(c, WALL, 0, -4, 128, 1, 3, 8);
        judged(c, WALL, 1, -4, 32768, 1, 3, 8);
        judged(c, WALL, 0, 0, 127, 1, 3, 8);
    }

    @Says("behind that the size, if it is short;")
    static void aShortRow(Checks c) {
        for (int sort = 0; sort < 3; sort++) {
            judged(c, WALL, sort, 3, 1, 1, 3);
            judged(c, WALL, sort, 1, 1);
            judged(c, WALL, sort, 0);
            judged(c, WALL, sort, 3, LEAST[sort], LEAST[sort], LEAST[sort]);
            judged(c, WALL, sort, 2, 1, 1, 4);
            judged(c, WALL, sort, 0, 7, 1, 3);
        }
    }

    @Says("how many DAWNS, if it is long; -4.")
    static void aLongRow(Checks c) {
        for (int sort = 0; sort < 3; sort++) {
            judged(c, WALL, sort, 4, 1, 1, 3, 8, 8);
            judged(c, WALL, sort, 4, 1, 1, 3, 8, LEAST[sort]);
            judged(c, WALL, sort, 4, 1, 1, 3, 8, 99, 99, 99);
            judged(c, WALL, sort, 2, 1, 1, 2, 8, 8);
            judged(c, "t0;", sort, 0, 0);
            judged(c, "t0;", sort, 0, LEAST[sort]);
        }
    }

    @Says("JUDGED by the ROW in SHELF d; -4.")
    static void noDawnsAndFortyOfThem(Checks c) {
        judged(c, "t0;", 0, -4);
        StrokesOnWall x = Checks.walled("t40;");
        x.row(D, 1, 100);
        for (int i = 0; i < 100; i++) {
            x.put(D, i, i + 1);
        }
        c.due("judge of 100 by 40", x.judge(D), 40);
        x.row(D, 1, 40);
        for (int i = 0; i < 40; i++) {
            x.put(D, i, i + 1);
        }
        c.due("judge of 40 by 40", x.judge(D), -4);
        x.put(D, 39, 0);
        c.due("judge, the latest is off", x.judge(D), 39);
        x.back();
        c.due("judge of 40 by 39", x.judge(D), 39);
    }

    @Says("what is put in keeps its lowest bits")
    static void aByteCantTellMoreThan127(Checks c) {
        StrokesOnWall x = Checks.dawned(4, 9, 29);
        x.row(D, 0, 29);
        for (int i = 0; i < 29; i++) {
            x.put(D, i, 9 * (i + 1));
        }
        // 9 times 14 is 126, 9 times 15 is 135, which a byte keeps as -121.
        c.due("judge of bytes", x.judge(D), 14);
        x.row(D, 1, 29);
        for (int i = 0; i < 29; i++) {
            x.put(D, i, 9 * (i + 1));
        }
        c.due("judge of shorts", x.judge(D), -4);
    }

    @Says("JUDGED by the ROW in SHELF d; -4. -1, -11, -12 (no ROW).")
    static void refusals(Checks c) {
        for (int d : new int[] {-1, 8, Checks.MIN, Checks.MAX}) {
            c.refused("judge(" + d + ")", () -> Checks.walled(WALL), x -> x.judge(d), -1);
        }
        c.refused("judge of nothing", () -> Checks.walled(WALL), x -> x.judge(5), -11);
        c.refused("judge of a DAWN", () -> Checks.dawned(1, 0, 1), x -> x.judge(1), -12);
        for (int d : new int[] {0, 7}) {
            StrokesOnWall x = new StrokesOnWall();
            x.row(d, 2, 1);
            c.due("judge(" + d + ")", x.judge(d), 0);
        }
    }

    @Says("The ROW that is read, and what is taken from a SHELF, stay there;")
    static void whatIsJudgedStays(Checks c) {
        StrokesOnWall x = Checks.walled(WALL);
        Checks.row(x, D, 1, 1, 1, 2);
        x.judge(D);
        c.dueText("SHELF 6", Checks.elements(x, D), "1 1 2 IllegalStateException");
    }
}
