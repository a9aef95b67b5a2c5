/** Promise 35: toss. */
public final class Promise35TossTest {
    public static void main(String[] args) {
        Cases.run(Promise35TossTest.class);
    }

    private static void toss(Checks c, int kind, int figure, int want) {
        StrokesOnWall x = new StrokesOnWall();
        x.keep(4, 1, kind, figure);
        c.due("toss of " + kind + figure, x.toss(4), want);
    }

    @Says("The FAILURE of the DAWN on SHELF d is thrown, and caught: its FIGURE;")
    static void theFigureFrom1To9(Checks c) {
        for (int kind : new int[] {0, 1, 2, 3, 6}) {
            for (int figure = 1; figure < 10; figure++) {
                toss(c, kind, figure, figure);
            }
        }
    }

    @Says("of SCRAPED ones 100 more;")
    static void aScrapedOneHas100More(Checks c) {
        for (int figure = 1; figure < 10; figure++) {
            toss(c, 5, figure, 100 + figure);
        }
    }

    @Says("of MENDED ones 200 plus their EASE, in place of all that (FIGURE, too).")
    static void aMendedOneHas200AndItsEase(Checks c) {
        for (int figure = 1; figure < 10; figure++) {
            toss(c, 7, figure, 209);
        }
    }

    @Says("-15: GUESSED ones, and any with FIGURE 0 (MENDED ones, too), have none.")
    static void guessedOnesHaveNone(Checks c) {
        for (int figure = 0; figure < 10; figure++) {
            int asked = figure;
            c.refused("toss of 4" + figure, () -> {
                StrokesOnWall x = Checks.walled("t2;");
                x.keep(4, 1, 4, asked);
                return x;
            }, x -> x.toss(4), -15);
        }
    }

    @Says("-15: GUESSED ones, and any with FIGURE 0 (MENDED ones, too), have none.")
    static void anyWithTheFigure0HasNone(Checks c) {
        for (int kind = 0; kind < 8; kind++) {
            int asked = kind;
            c.refused("toss of " + kind + "0", () -> {
                StrokesOnWall x = Checks.walled("t2;");
                x.keep(4, 1, asked, 0);
                return x;
            }, x -> x.toss(4), -15);
        }
    }

    @Says("-1, -11, -12 (a ROW); -15")
    static void refusals(Checks c) {
        for (int d : new int[] {-1, 8, Checks.MIN, Checks.MAX}) {
            c.refused("toss(" + d + ")", () -> Checks.dawned(1, 5, 1), x -> x.toss(d), -1);
        }
        c.refused("toss of nothing", () -> Checks.dawned(1, 5, 1), x -> x.toss(2), -11);
        for (int sort = 0; sort < 3; sort++) {
            int ofSort = sort;
            c.refused("toss of SORT " + sort, () -> {
                StrokesOnWall x = new StrokesOnWall();
                x.row(2, ofSort, ofSort);
                return x;
            }, x -> x.toss(2), -12);
        }
        for (int d : new int[] {0, 7}) {
            StrokesOnWall x = new StrokesOnWall();
            x.keep(d, 1, 1, 4);
            c.due("toss(" + d + ")", x.toss(d), 4);
        }
    }

    @Says("The ROW that is read, and what is taken from a SHELF, stay there;")
    static void theDawnStays(Checks c) {
        StrokesOnWall x = new StrokesOnWall();
        x.keep(4, 1, 5, 8);
        c.due("toss(4)", x.toss(4), 108);
        c.due("toss(4) again", x.toss(4), 108);
        c.due("ease(4)", x.ease(4), -8);
    }
}
