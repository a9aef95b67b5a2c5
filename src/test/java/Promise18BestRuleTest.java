/** Promise 18: bestRule. */
public final class Promise18BestRuleTest {
    public static void main(String[] args) {
        Cases.run(Promise18BestRuleTest.class);
    }

    private static void best(Checks c, int md, int n, int z, int want, int... off) {
        StrokesOnWall x = new StrokesOnWall();
        String told = md + ", " + n + ", " + z + ")";
        for (int rule = 0; rule < 4; rule++) {
            c.due("rule(" + rule + ", " + told, x.rule(rule, md, n, z), off[rule]);
        }
        c.due("bestRule(" + told, x.bestRule(md, n, z), want);
    }

    private static void refused(Checks c, int md, int n, int z) {
        String told = "bestRule(" + md + ", " + n + ", " + z + ")";
        c.refused(told, () -> Checks.walled("t1;"), x -> x.bestRule(md, n, z), -1);
    }

    @Says("the best RULE: that with the least of these without sign")
    static void theLeastWithoutSign(Checks c) {
        best(c, 11, 7, 11, 0, -1, -3, -7, 2);
        best(c, 11, 14, 21, 1, 2, -1, -7, 6);
        best(c, 21, 60, 5, 1, 14, -5, -7, 25);
        best(c, 11, 30, 47, 2, 2, -3, -1, 5);
        best(c, 10, 60, 7, 2, 9, 2, 1, 14);
        best(c, 11, 7, 15, 3, -2, -2, -7, 1);
        best(c, 1, 7, 23, 3, -2, -2, -7, -1);
        best(c, 1, 1, 0, 3, -1, -1, -1, 0);
    }

    @Says("without sign, of several the least.")
    static void ofSeveralTheLeast(Checks c) {
        best(c, 0, 1, 0, 0, 0, 0, 0, 0);
        best(c, 30, 1, 14, 0, 1, 1, 1, 1);
        best(c, 3, 1, 14, 0, -1, -1, -1, -1);
        best(c, 12, 1, 14, 0, 1, -1, 1, 1);
        best(c, 41, 30, 18, 0, 6, -6, -6, 19);
        best(c, 35, 14, 5, 0, 1, -7, -7, 1);
        best(c, 21, 60, 39, 1, 15, -7, -7, 23);
        best(c, 11, 30, 7, 1, 2, -1, 1, 8);
        best(c, 41, 30, 12, 1, 8, 1, -1, 16);
    }

    @Says({"n days (1 .. 60; number 0 first)", "The best RULE. -1."})
    static void daysAre1To60(Checks c) {
        best(c, 10, 1, 0, 1, 1, 0, 1, 1);
        best(c, 21, 60, 3, 0, 0, -7, -14, 14);
        for (int n : new int[] {0, 61, -1, Checks.MIN, Checks.MAX}) {
            refused(c, 21, n, 5);
        }
    }

    @Says("m tenths (0 .. 9), two by d tenths (0 .. 9; m and d together 10 at most)")
    static void tenthsAre10AtMost(Checks c) {
        best(c, 90, 60, 4, 2, 58, 55, 46, 60);
        best(c, 19, 1, 3, 0, -1, -1, -1, -1);
        for (int md : new int[] {-1, 29, 92, 99, 100, Checks.MIN, Checks.MAX}) {
            refused(c, md, 5, 0);
        }
    }

    @Says("DRAWS: z becomes z times 1103515245 plus 12345 (an int)")
    static void anySeedIsTaken(Checks c) {
        best(c, 21, 60, Checks.MAX, 0, 0, -8, -27, 14);
        best(c, 21, 60, Checks.MIN, 0, 5, -11, -14, 22);
        best(c, 21, 60, -1, 0, 0, -8, -27, 14);
    }
}
