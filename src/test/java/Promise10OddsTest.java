import java.util.Arrays;

/** Promise 10: odds. By 5 tenths for no stroke and 0 strokes t days weigh 1 over 2 to the power of t. */
public final class Promise10OddsTest {
    private static final int E = Signs.E;

    public static void main(String[] args) {
        Cases.run(Promise10OddsTest.class);
    }

    private static void odds(Checks c, int md, int t, int s, int[] signs, long above, long below) {
        StrokesOnWall x = Signs.told(signs);
        String told = "odds(" + md + ", " + t + ", " + s + ") of " + Arrays.toString(signs) + ", part ";
        c.due(told + "0", x.odds(md, t, s, E, 0), above);
        c.due(told + "1", x.odds(md, t, s, E, 1), below);
    }

    private static int[] signs(int... signs) {
        return signs;
    }

    private static void refused(Checks c, int md, int t, int s, int e, int part) {
        String told = "odds(" + md + ", " + t + ", " + s + ", " + e + ", " + part + ")";
        c.refused(told, () -> Signs.told(7, 6, 2), x -> x.odds(md, t, s, e, part), -1000000001);
    }

    private static void notAsTold(Checks c, int[][] wrong) {
        for (int[] signs : wrong) {
            String told = "odds by " + Arrays.toString(signs);
            c.refused(told, () -> Signs.told(signs), x -> x.odds(50, 0, 0, E, 0), -1000000013);
        }
    }

    @Says("ODDS that t days there were (0 .. 12, all as likely at first)")
    static void daysAre0To12(Checks c) {
        odds(c, 50, 0, 0, signs(), 4096, 8191);
        odds(c, 50, 12, 0, signs(), 1, 8191);
        odds(c, 0, 0, 0, signs(), 1, 1);
        odds(c, 0, 12, 12, signs(), 1, 1);
        refused(c, 50, -1, 0, E, 0);
        refused(c, 50, 13, 0, E, 0);
        refused(c, 50, Checks.MIN, 0, E, 0);
        refused(c, 50, Checks.MAX, 0, E, 0);
    }

    @Says("CHANCE of s strokes (0 .. 24)")
    static void strokesAre0To24(Checks c) {
        odds(c, 9, 12, 24, signs(), 1, 1);
        odds(c, 9, 11, 24, signs(), 0, 1);
        odds(c, 50, 1, 0, signs(), 2048, 8191);
        refused(c, 50, 1, -1, E, 0);
        refused(c, 50, 1, 25, E, 0);
        refused(c, 50, 1, Checks.MIN, E, 0);
        refused(c, 50, 1, Checks.MAX, E, 0);
    }

    @Says("m tenths (0 .. 9), two by d tenths (0 .. 9; m and d together 10 at most)")
    static void tenthsAre10AtMost(Checks c) {
        odds(c, 90, 0, 24, signs(), 0, 1);
        odds(c, 91, 12, 24, signs(), 1, 1);
        odds(c, 19, 12, 24, signs(), 1, 1);
        for (int md : new int[] {-1, 29, 92, 99, 100, Checks.MIN, Checks.MAX}) {
            refused(c, md, 1, 1, E, 0);
        }
    }

    @Says("part 0 above, 1 below the line. -1000000001")
    static void partIs0Or1(Checks c) {
        for (int part : new int[] {-1, 2, Checks.MIN, Checks.MAX}) {
            refused(c, 50, 1, 0, E, part);
        }
    }

    @Says("(0 by 1, if all are 0).")
    static void allOddsAre0(Checks c) {
        for (int t = 0; t <= 12; t++) {
            odds(c, 0, t, 13, signs(), 0, 1);
        }
        odds(c, 50, 0, 0, signs(2, 0, 0, 2, 1, 0), 0, 1);
        odds(c, 50, 1, 0, signs(2, 0, 0, 2, 1, 0), 0, 1);
    }

    @Says("by s strokes and SIGNS: a fraction in least terms")
    static void theFractionIsInLeastTerms(Checks c) {
        odds(c, 50, 1, 0, signs(2, 1, 0), 1024, 1365);
        odds(c, 50, 0, 0, signs(2, 1, 0), 0, 1);
        odds(c, 50, 8, 0, signs(9, 8, 0), 1, 1);
    }

    @Says({"SIGNS (2 at most, told by a ROW of bytes by threes", "(a number or a size that isn't as told, too)"})
    static void signsAre2AtMost(Checks c) {
        odds(c, 50, 0, 0, signs(), 4096, 8191);
        odds(c, 50, 0, 0, signs(2, 0, 0), 4096, 5461);
        odds(c, 50, 0, 0, signs(2, 0, 0, 3, 0, 0), 4096, 4161);
        odds(c, 50, 0, 0, signs(2, 0, 0, 2, 0, 0), 4096, 5461);
        notAsTold(c, Signs.WRONG_SIZES);
    }

    @Says("-1000000013 (not as told, more than two)")
    static void moreThanTwoAreRefused(Checks c) {
        notAsTold(c, Signs.MORE_THAN_TWO);
        c.refused("odds by 33 signs", () -> {
            StrokesOnWall x = new StrokesOnWall();
            x.row(E, 0, 99);
            return x;
        }, x -> x.odds(50, 0, 0, E, 0), -1000000013);
    }

    @Says("M 2 .. 9")
    static void theDivisorIs2To9(Checks c) {
        odds(c, 50, 1, 0, signs(2, 1, 0), 1024, 1365);
        odds(c, 50, 3, 0, signs(9, 3, 0), 512, 513);
        odds(c, 50, 12, 0, signs(9, 3, 0), 1, 513);
        notAsTold(c, Signs.WRONG_DIVISORS);
    }

    @Says("R 0 .. M less 1")
    static void theRestIs0ToOneLess(Checks c) {
        for (int divisor = 2; divisor <= 9; divisor++) {
            odds(c, 0, divisor - 1, divisor - 1, signs(divisor, divisor - 1, 0), 1, 1);
            odds(c, 0, divisor, divisor, signs(divisor, 0, 0), 1, 1);
            odds(c, 0, divisor, divisor, signs(divisor, divisor - 1, 0), 0, 1);
        }
        notAsTold(c, Signs.WRONG_RESTS);
    }

    @Says({"a slip e 0 .. 9)", "such a SIGN is there by (10 less e) tenths, if that is so, else by e tenths."})
    static void theSlipIs0To9(Checks c) {
        odds(c, 50, 1, 0, signs(2, 0, 0), 0, 1);
        odds(c, 50, 0, 0, signs(2, 0, 9), 4096, 30031);
        odds(c, 50, 1, 0, signs(2, 0, 9), 18432, 30031);
        odds(c, 50, 0, 0, signs(2, 0, 5), 4096, 8191);
        odds(c, 50, 0, 0, signs(2, 0, 0, 2, 1, 9), 4096, 5461);
        odds(c, 50, 0, 0, signs(2, 0, 1, 2, 1, 1), 4096, 8191);
        notAsTold(c, Signs.WRONG_SLIPS);
    }

    @Says({"-1000000001, -1000000011, -1000000012 (no ROW of bytes)",
        "where numbers that may be below 0, or longs, are answered (told at the call), 1000000000 less."})
    static void refusals(Checks c) {
        for (int e : new int[] {-1, 8, Checks.MIN, Checks.MAX}) {
            refused(c, 50, 1, 0, e, 0);
        }
        c.refused("odds by nothing", Signs::nothing, x -> x.odds(50, 1, 0, E, 0), -1000000011);
        c.refused("odds by a DAWN", Signs::ofADawn, x -> x.odds(50, 1, 0, E, 0), -1000000012);
        c.refused("odds by shorts", () -> Signs.ofSort(1, 7, 6, 2), x -> x.odds(50, 1, 0, E, 0), -1000000012);
        c.refused("odds by ints", () -> Signs.ofSort(2, 7, 6, 2), x -> x.odds(50, 1, 0, E, 0), -1000000012);
        c.refused("odds by no ints", () -> Signs.ofSort(2), x -> x.odds(50, 1, 0, E, 0), -1000000012);
        for (int e : new int[] {0, 7}) {
            StrokesOnWall x = new StrokesOnWall();
            x.row(e, 0, 0);
            c.due("odds by SHELF " + e, x.odds(50, 0, 0, e, 0), 4096);
        }
    }

    @Says({"Answers of several refusals are the first one as they are told at the call",
        "-1000000001, -1000000011, -1000000012 (no ROW of bytes), -1000000013 (not as told, more than two)."})
    static void theFirstRefusalIsTold(Checks c) {
        int[][] outOfRange = {{92, 1, 0, 0}, {50, 13, 0, 0}, {50, 1, 25, 0}, {50, 1, 0, 2}};
        for (int[] w : outOfRange) {
            c.due("odds by nothing", Signs.nothing().odds(w[0], w[1], w[2], E, w[3]), -1000000001);
            c.due("odds by a DAWN", Signs.ofADawn().odds(w[0], w[1], w[2], E, w[3]), -1000000001);
            c.due("odds by shorts", Signs.ofSort(1, 7, 6, 2).odds(w[0], w[1], w[2], E, w[3]), -1000000001);
            c.due("odds by no SIGNS", Signs.told(7, 7, 2).odds(w[0], w[1], w[2], E, w[3]), -1000000001);
        }
        c.due("odds by shorts not as told", Signs.ofSort(1, 7).odds(50, 1, 0, E, 0), -1000000012);
        StrokesOnWall ints = Signs.ofSort(2, 7, 6, 2, 7, 6, 2, 7, 6, 2);
        c.due("odds by ints, more than two", ints.odds(50, 1, 0, E, 0), -1000000012);
        c.due("odds that are all 0, SIGNS not as told", Signs.told(1, 0, 0).odds(0, 1, 24, E, 0), -1000000013);
    }

    @Says("The ROW that is read, and what is taken from a SHELF, stay there;")
    static void theSignsStay(Checks c) {
        StrokesOnWall x = Signs.told(7, 6, 2);
        x.odds(50, 1, 0, E, 0);
        c.dueText("SHELF 4", Checks.elements(x, E), "7 6 2 IllegalStateException");
    }
}
