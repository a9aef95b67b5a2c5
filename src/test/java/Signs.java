/** SIGNS as they are told in SHELF 4, and those that are refused: for odds, date and next. */
final class Signs {
    static final int E = 4;

    /** ROWS of bytes that are no SIGNS as told. */
    static final int[][] WRONG_SIZES = {{7}, {7, 6}, {7, 6, 2, 3}, {7, 6, 2, 3, 0}, {7, 6, 2, 3, 0, 0, 5},
        {7, 6, 2, 3, 0, 0, 5, 4}};
    static final int[][] MORE_THAN_TWO = {{7, 6, 2, 3, 0, 0, 5, 4, 1}, {2, 0, 0, 2, 0, 0, 2, 0, 0, 2, 0, 0}};
    static final int[][] WRONG_DIVISORS = {{1, 0, 2}, {10, 0, 2}, {0, 0, 2}, {-2, 0, 2}, {-128, 0, 2}, {127, 0, 2},
        {7, 6, 2, 1, 0, 0}, {7, 6, 2, 10, 0, 0}};
    static final int[][] WRONG_RESTS = {{7, 7, 2}, {7, -1, 2}, {2, 2, 2}, {9, 9, 2}, {2, -1, 2}, {7, 6, 2, 3, 3, 0},
        {7, 6, 2, 3, -1, 0}, {3, 127, 0}};
    static final int[][] WRONG_SLIPS = {{7, 6, 10}, {7, 6, -1}, {7, 6, 127}, {7, 6, -128}, {7, 6, 2, 3, 0, 10},
        {7, 6, 2, 3, 0, -1}};

    private Signs() {
    }

    /** An object with a wall of two DAWNS and the SIGNS in SHELF 4. */
    static StrokesOnWall told(int... signs) {
        StrokesOnWall x = Checks.walled("t2;");
        Checks.row(x, E, 0, signs);
        return x;
    }

    static StrokesOnWall ofSort(int sort, int... signs) {
        StrokesOnWall x = Checks.walled("t2;");
        Checks.row(x, E, sort, signs);
        return x;
    }

    static StrokesOnWall nothing() {
        return Checks.walled("t2;");
    }

    static StrokesOnWall ofADawn() {
        StrokesOnWall x = Checks.walled("t2;");
        x.keep(E, 1, 1, 0);
        return x;
    }
}
