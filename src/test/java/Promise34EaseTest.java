/** Promise 34: ease. */
public final class Promise34EaseTest {
    public static void main(String[] args) {
        Cases.run(Promise34EaseTest.class);
    }

    private static void ease(Checks c, int kind, int figure, int want) {
        StrokesOnWall x = new StrokesOnWall();
        x.keep(4, 1, kind, figure);
        c.due("ease of " + kind + figure, x.ease(4), want);
    }

    @Says("EASE of a DAWN: STROKE 1; TRUE a STROKE's and 2; MISSED a STROKE's less 1; DOUBLED twice a TRUE's;")
    static void thoseWithoutTheFigure(Checks c) {
        for (int figure = 0; figure < 10; figure++) {
            ease(c, 0, figure, 1);
            ease(c, 1, figure, 3);
            ease(c, 2, figure, 0);
            ease(c, 3, figure, 6);
        }
    }

    @Says("GUESSED a STROKE's times FIGURE;")
    static void aGuessedOneFrom0To9(Checks c) {
        for (int figure = 0; figure < 10; figure++) {
            ease(c, 4, figure, figure);
        }
    }

    @Says({"SCRAPED a MISSED's less FIGURE (0 or below);", "(of SCRAPED ones as it is, too)"})
    static void aScrapedOneIs0OrBelow(Checks c) {
        for (int figure = 0; figure < 10; figure++) {
            ease(c, 5, figure, -figure);
        }
    }

    @Says("BOUND a TRUE's and FIGURE; MENDED three times a TRUE's.")
    static void aBoundAndAMendedOne(Checks c) {
        for (int figure = 0; figure < 10; figure++) {
            ease(c, 6, figure, 3 + figure);
            ease(c, 7, figure, 9);
        }
    }

    @Says("EASE of the DAWN on SHELF d (of SCRAPED ones as it is, too). -1, -11, -12 (a ROW).")
    static void refusals(Checks c) {
        for (int d : new int[] {-1, 8, Checks.MIN, Checks.MAX}) {
            c.refused("ease(" + d + ")", () -> Checks.dawned(1, 0, 1), x -> x.ease(d), -1);
        }
        c.refused("ease of nothing", () -> Checks.dawned(1, 0, 1), x -> x.ease(2), -11);
        for (int sort = 0; sort < 3; sort++) {
            int ofSort = sort;
            c.refused("ease of SORT " + sort, () -> {
                StrokesOnWall x = new StrokesOnWall();
                x.row(2, ofSort, ofSort);
                return x;
            }, x -> x.ease(2), -12);
        }
        for (int d : new int[] {0, 7}) {
            StrokesOnWall x = new StrokesOnWall();
            x.keep(d, 1, 1, 0);
            c.due("ease(" + d + ")", x.ease(d), 3);
        }
    }

    @Says("The ROW that is read, and what is taken from a SHELF, stay there;")
    static void theDawnStays(Checks c) {
        StrokesOnWall x = new StrokesOnWall();
        x.keep(4, 1, 5, 8);
        c.due("ease(4)", x.ease(4), -8);
        c.due("ease(4) again", x.ease(4), -8);
        c.due("comes(4)", x.comes(4), 0);
    }
}
