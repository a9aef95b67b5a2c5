import java.util.Arrays;

/** Promise 11: date. By 5 tenths for no stroke and 0 strokes t days weigh 1 over 2 to the power of t. */
public final class Promise11DateTest {
    private static final int E = Signs.E;

    public static void main(String[] args) {
        Cases.run(Promise11DateTest.class);
    }

    private static void date(Checks c, int md, int s, int[] signs, int likeliest, int least, int greatest) {
        StrokesOnWall x = Signs.told(signs);
        String told = "date(" + md + ", " + s + ") of " + Arrays.toString(signs) + ", what ";
        c.due(told + "0", x.date(md, s, E, 0), likeliest);
        c.due(told + "1", x.date(md, s, E, 1), least);
        c.due(told + "2", x.date(md, s, E, 2), greatest);
    }

    private static int[] signs(int... signs) {
        return signs;
    }

    private static void refused(Checks c, int md, int s, int e, int what) {
        String told = "date(" + md + ", " + s + ", " + e + ", " + what + ")";
        c.refused(told, () -> Signs.told(7, 6, 2), x -> x.date(md, s, e, what), -1);
    }

    private static void notAsTold(Checks c, int[][] wrong) {
        for (int[] signs : wrong) {
            for (int what = 0; what < 3; what++) {
                int asked = what;
                String told = "date by " + Arrays.toString(signs) + ", what " + what;
                c.refused(told, () -> Signs.told(signs), x -> x.date(50, 0, E, asked), -13);
            }
        }
    }

    @Says("DATE: the likeliest t, of several the least; -4 all are 0.")
    static void ofSeveralTheLeast(Checks c) {
        date(c, 50, 2, signs(), 3, 2, 12);
        date(c, 50, 2, signs(2, 0, 0), 4, 2, 12);
        date(c, 50, 1, signs(), 1, 1, 12);
        // 4 days weigh half as much as 3, and a SIGN by 5 tenths more or less changes nothing.
        date(c, 50, 3, signs(), 5, 3, 12);
        date(c, 50, 3, signs(3, 1, 5), 5, 3, 12);
    }

    @Says("DATE: the likeliest t, of several the least; -4 all are 0.")
    static void allAre0(Checks c) {
        date(c, 0, 13, signs(), -4, -4, -4);
        date(c, 0, 12, signs(), 12, 12, 12);
        date(c, 50, 13, signs(), -4, -4, -4);
        date(c, 50, 12, signs(), 12, 12, 12);
        date(c, 50, 0, signs(2, 0, 0, 2, 1, 0), -4, -4, -4);
        date(c, 50, 0, signs(2, 0, 0, 2, 1, 1), 0, 0, 12);
        date(c, 0, 3, signs(9, 4, 0), -4, -4, -4);
    }

    @Says("BOUNDS: the least and the greatest t that is likely at all; -4.")
    static void theLeastAndTheGreatest(Checks c) {
        date(c, 50, 0, signs(), 0, 0, 12);
        date(c, 0, 0, signs(), 0, 0, 0);
        date(c, 9, 24, signs(), 12, 12, 12);
        date(c, 1, 23, signs(), 12, 12, 12);
        date(c, 1, 9, signs(), 9, 5, 9);
        date(c, 50, 0, signs(9, 3, 0), 3, 3, 12);
        date(c, 50, 0, signs(9, 3, 1), 3, 0, 12);
        date(c, 50, 0, signs(9, 8, 0), 8, 8, 8);
    }

    @Says("`int date(int md, int s, int e, int what)`: DATE (what 0), BOUNDS: the least (1), the greatest (2); -4. -1")
    static void whatIs0To2(Checks c) {
        date(c, 10, 4, signs(), 4, 4, 12);
        for (int what : new int[] {-1, 3, Checks.MIN, Checks.MAX}) {
            refused(c, 50, 0, E, what);
        }
    }

    @Says("CHANCE of s strokes (0 .. 24)")
    static void strokesAre0To24(Checks c) {
        date(c, 91, 24, signs(), 12, 12, 12);
        date(c, 90, 0, signs(), 0, 0, 12);
        for (int s : new int[] {-1, 25, Checks.MIN, Checks.MAX}) {
            refused(c, 50, s, E, 0);
        }
    }

    @Says("m tenths (0 .. 9), two by d tenths (0 .. 9; m and d together 10 at most)")
    static void tenthsAre10AtMost(Checks c) {
        date(c, 19, 1, signs(), -4, -4, -4);
        for (int md : new int[] {-1, 29, 92, 99, 100, Checks.MIN, Checks.MAX}) {
            refused(c, md, 1, E, 0);
        }
    }

    @Says("-1, -11, -12, -13 likewise.")
    static void refusals(Checks c) {
        for (int e : new int[] {-1, 8, Checks.MIN, Checks.MAX}) {
            refused(c, 50, 0, e, 0);
        }
        for (int what = 0; what < 3; what++) {
            int asked = what;
            c.refused("date by nothing", Signs::nothing, x -> x.date(50, 0, E, asked), -11);
            c.refused("date by a DAWN", Signs::ofADawn, x -> x.date(50, 0, E, asked), -12);
            c.refused("date by shorts", () -> Signs.ofSort(1, 7, 6, 2), x -> x.date(50, 0, E, asked), -12);
            c.refused("date by ints", () -> Signs.ofSort(2, 7, 6, 2), x -> x.date(50, 0, E, asked), -12);
        }
        for (int e : new int[] {0, 7}) {
            StrokesOnWall x = new StrokesOnWall();
            x.row(e, 0, 0);
            c.due("date by SHELF " + e, x.date(50, 0, e, 2), 12);
        }
    }

    @Says({"SIGNS (2 at most, told by a ROW of bytes by threes: M 2 .. 9, R 0 .. M less 1, a slip e 0 .. 9)",
        "(a number or a size that isn't as told, too)"})
    static void signsNotAsToldAreRefused(Checks c) {
        date(c, 50, 0, signs(2, 1, 0, 9, 0, 9), 1, 1, 11);
        notAsTold(c, Signs.WRONG_SIZES);
        notAsTold(c, Signs.MORE_THAN_TWO);
        notAsTold(c, Signs.WRONG_DIVISORS);
        notAsTold(c, Signs.WRONG_RESTS);
        notAsTold(c, Signs.WRONG_SLIPS);
    }

    @Says({"Answers of several refusals are the first one as they are told at the call", "-1, -11, -12, -13 likewise."})
    static void theFirstRefusalIsTold(Checks c) {
        int[][] outOfRange = {{92, 0, 0}, {50, 25, 0}, {50, 0, 3}};
        for (int[] w : outOfRange) {
            c.due("date by nothing", Signs.nothing().date(w[0], w[1], E, w[2]), -1);
            c.due("date by a DAWN", Signs.ofADawn().date(w[0], w[1], E, w[2]), -1);
            c.due("date by shorts", Signs.ofSort(1, 7, 6, 2).date(w[0], w[1], E, w[2]), -1);
            c.due("date by no SIGNS", Signs.told(7, 7, 2).date(w[0], w[1], E, w[2]), -1);
        }
        c.due("date by shorts not as told", Signs.ofSort(1, 7).date(50, 0, E, 0), -12);
    }

    /** Without SIGNS as told nothing can be weighed, so that what is none can't be told yet. */
    @Says("-1, -11, -12, -13 likewise.")
    static void whatCantBeWeighedGoesAheadOfNone(Checks c) {
        c.due("date by nothing", Signs.nothing().date(0, 24, E, 0), -11);
        c.due("date by ints", Signs.ofSort(2).date(0, 24, E, 0), -12);
        c.due("date by no SIGNS", Signs.told(1, 0, 0).date(0, 24, E, 0), -13);
        c.due("date, what 3", Signs.told().date(0, 24, E, 3), -1);
    }

    @Says("The ROW that is read, and what is taken from a SHELF, stay there;")
    static void theSignsStay(Checks c) {
        StrokesOnWall x = Signs.told(7, 6, 2);
        x.date(50, 0, E, 0);
        c.dueText("SHELF 4", Checks.elements(x, E), "7 6 2 IllegalStateException");
    }
}
