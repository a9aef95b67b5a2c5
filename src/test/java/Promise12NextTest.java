import java.util.Arrays;

/** Promise 12: next. By 1 tenth for no stroke the days from the number of strokes to 12 are likely at all. */
public final class Promise12NextTest {
    private static final int E = Signs.E;

    public static void main(String[] args) {
        Cases.run(Promise12NextTest.class);
    }

    private static void next(Checks c, int md, int s, int[] signs, int divisor, int number) {
        StrokesOnWall x = Signs.told(signs);
        String told = "next(" + md + ", " + s + ") of " + Arrays.toString(signs) + ", what ";
        c.due(told + "0", x.next(md, s, E, 0), divisor);
        c.due(told + "1", x.next(md, s, E, 1), number);
    }

    private static int[] signs(int... signs) {
        return signs;
    }

    private static void refused(Checks c, int md, int s, int e, int what) {
        String told = "next(" + md + ", " + s + ", " + e + ", " + what + ")";
        c.refused(told, () -> Signs.told(7, 6, 2), x -> x.next(md, s, e, what), -1);
    }

    private static void notAsTold(Checks c, int[][] wrong) {
        for (int[] signs : wrong) {
            for (int what = 0; what < 2; what++) {
                int asked = what;
                String told = "next by " + Arrays.toString(signs) + ", what " + what;
                c.refused(told, () -> Signs.told(signs), x -> x.next(10, 0, E, asked), -13);
            }
        }
    }

    @Says("NEXT: of M 2 .. 9 that by which the greatest number of t that are likely at all with one rest by M "
        + "is least;")
    static void theDivisorIs2To9(Checks c) {
        // As many days as M in a row have each rest once; with 9 of them no lesser M has that.
        next(c, 10, 11, signs(), 2, 1);
        next(c, 10, 10, signs(), 3, 1);
        next(c, 10, 9, signs(), 4, 1);
        next(c, 10, 8, signs(), 5, 1);
        next(c, 10, 7, signs(), 6, 1);
        next(c, 10, 6, signs(), 7, 1);
        next(c, 10, 5, signs(), 8, 1);
        next(c, 10, 4, signs(), 9, 1);
        next(c, 10, 3, signs(), 5, 2);
    }

    @Says("of several the least M; that number;")
    static void ofSeveralTheLeastDivisor(Checks c) {
        next(c, 10, 12, signs(), 2, 1);
        next(c, 0, 5, signs(), 2, 1);
        next(c, 10, 0, signs(), 7, 2);
        next(c, 10, 1, signs(), 6, 2);
        next(c, 10, 2, signs(), 6, 2);
        next(c, 10, 0, signs(2, 0, 0), 7, 1);
        next(c, 10, 0, signs(6, 0, 0), 5, 1);
        next(c, 10, 0, signs(7, 3, 0), 2, 1);
        next(c, 10, 0, signs(8, 0, 0), 3, 1);
    }

    @Says("t that are likely at all with one rest by M")
    static void aSlipMakesAllDaysLikely(Checks c) {
        next(c, 10, 0, signs(6, 0, 1), 7, 2);
        next(c, 10, 0, signs(6, 0, 9), 7, 2);
    }

    @Says("-4 none is likely.")
    static void noneIsLikely(Checks c) {
        next(c, 10, 13, signs(), -4, -4);
        next(c, 10, 12, signs(), 2, 1);
        next(c, 10, 0, signs(2, 0, 0, 2, 1, 0), -4, -4);
        next(c, 0, 3, signs(9, 4, 0), -4, -4);
    }

    @Says("NEXT: the M (what 0), the number (1); -4. -1")
    static void whatIs0Or1(Checks c) {
        for (int what : new int[] {-1, 2, Checks.MIN, Checks.MAX}) {
            refused(c, 10, 0, E, what);
        }
    }

    @Says("CHANCE of s strokes (0 .. 24)")
    static void strokesAre0To24(Checks c) {
        next(c, 91, 24, signs(), 2, 1);
        next(c, 90, 0, signs(), 7, 2);
        for (int s : new int[] {-1, 25, Checks.MIN, Checks.MAX}) {
            refused(c, 10, s, E, 0);
        }
    }

    @Says("m tenths (0 .. 9), two by d tenths (0 .. 9; m and d together 10 at most)")
    static void tenthsAre10AtMost(Checks c) {
        next(c, 19, 1, signs(), -4, -4);
        for (int md : new int[] {-1, 29, 92, 99, 100, Checks.MIN, Checks.MAX}) {
            refused(c, md, 1, E, 0);
        }
    }

    @Says("-1, -11, -12, -13 likewise.")
    static void refusals(Checks c) {
        for (int e : new int[] {-1, 8, Checks.MIN, Checks.MAX}) {
            refused(c, 10, 0, e, 0);
        }
        for (int what = 0; what < 2; what++) {
            int asked = what;
            c.refused("next by nothing", Signs::nothing, x -> x.next(10, 0, E, asked), -11);
            c.refused("next by a DAWN", Signs::ofADawn, x -> x.next(10, 0, E, asked), -12);
            c.refused("next by shorts", () -> Signs.ofSort(1, 7, 6, 2), x -> x.next(10, 0, E, asked), -12);
            c.refused("next by ints", () -> Signs.ofSort(2, 7, 6, 2), x -> x.next(10, 0, E, asked), -12);
        }
        for (int e : new int[] {0, 7}) {
            StrokesOnWall x = new StrokesOnWall();
            x.row(e, 0, 0);
            c.due("next by SHELF " + e, x.next(10, 0, e, 0), 7);
        }
    }

    @Says({"SIGNS (2 at most, told by a ROW of bytes by threes: M 2 .. 9, R 0 .. M less 1, a slip e 0 .. 9)",
        "(a number or a size that isn't as told, too)"})
    static void signsNotAsToldAreRefused(Checks c) {
        next(c, 10, 0, signs(2, 1, 0, 9, 8, 9), 7, 1);
        notAsTold(c, Signs.WRONG_SIZES);
        notAsTold(c, Signs.MORE_THAN_TWO);
        notAsTold(c, Signs.WRONG_DIVISORS);
        notAsTold(c, Signs.WRONG_RESTS);
        notAsTold(c, Signs.WRONG_SLIPS);
    }

    @Says({"Answers of several refusals are the first one as they are told at the call", "-1, -11, -12, -13 likewise."})
    static void theFirstRefusalIsTold(Checks c) {
        int[][] outOfRange = {{92, 0, 0}, {10, 25, 0}, {10, 0, 2}};
        for (int[] w : outOfRange) {
            c.due("next by nothing", Signs.nothing().next(w[0], w[1], E, w[2]), -1);
            c.due("next by a DAWN", Signs.ofADawn().next(w[0], w[1], E, w[2]), -1);
            c.due("next by shorts", Signs.ofSort(1, 7, 6, 2).next(w[0], w[1], E, w[2]), -1);
            c.due("next by no SIGNS", Signs.told(7, 7, 2).next(w[0], w[1], E, w[2]), -1);
        }
        c.due("next by shorts not as told", Signs.ofSort(1, 7).next(10, 0, E, 0), -12);
    }

    /** Without SIGNS as told nothing can be weighed, so that what is none can't be told yet. */
    @Says("-1, -11, -12, -13 likewise.")
    static void whatCantBeWeighedGoesAheadOfNone(Checks c) {
        c.due("next by nothing", Signs.nothing().next(0, 24, E, 0), -11);
        c.due("next by ints", Signs.ofSort(2).next(0, 24, E, 0), -12);
        c.due("next by no SIGNS", Signs.told(1, 0, 0).next(0, 24, E, 0), -13);
        c.due("next, what 2", Signs.told().next(0, 24, E, 2), -1);
    }

    @Says("The ROW that is read, and what is taken from a SHELF, stay there;")
    static void theSignsStay(Checks c) {
        StrokesOnWall x = Signs.told(7, 6, 2);
        x.next(10, 0, E, 0);
        c.dueText("SHELF 4", Checks.elements(x, E), "7 6 2 IllegalStateException");
    }
}
