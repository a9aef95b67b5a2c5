/** Promise 17: rule. DRAWS below 10 by the seed 5: 5, 7; by 0: 0, 8; by 3: 7, 7. */
public final class Promise17RuleTest {
    public static void main(String[] args) {
        Cases.run(Promise17RuleTest.class);
    }

    private static void off(Checks c, int md, int n, int z, int... off) {
        StrokesOnWall x = new StrokesOnWall();
        for (int rule = 0; rule < 4; rule++) {
            c.due("rule(" + rule + ", " + md + ", " + n + ", " + z + ")", x.rule(rule, md, n, z), off[rule]);
        }
    }

    private static void refused(Checks c, int rule, int md, int n, int z) {
        String told = "rule(" + rule + ", " + md + ", " + n + ", " + z + ")";
        c.refused(told, () -> Checks.walled("t1;"), x -> x.rule(rule, md, n, z), -1000000001);
    }

    @Says({"RULES: how far off it is. -1000000001.",
        "where numbers that may be below 0, or longs, are answered (told at the call), 1000000000 less."})
    static void rulesAre0To3(Checks c) {
        off(c, 21, 60, 5, 14, -5, -7, 25);
        for (int rule : new int[] {-1, 4, Checks.MIN, Checks.MAX}) {
            refused(c, rule, 21, 60, 5);
        }
    }

    @Says("n days (1 .. 60; number 0 first)")
    static void daysAre1To60(Checks c) {
        off(c, 10, 1, 0, 1, 0, 1, 1);
        off(c, 21, 60, 1, 6, -9, -13, 22);
        for (int n : new int[] {0, 61, -1, Checks.MIN, Checks.MAX}) {
            refused(c, 0, 21, n, 5);
        }
    }

    @Says("m tenths (0 .. 9), two by d tenths (0 .. 9; m and d together 10 at most)")
    static void tenthsAre10AtMost(Checks c) {
        off(c, 0, 1, 3, 0, 0, 0, 0);
        off(c, 90, 1, 3, 1, 1, 1, 1);
        off(c, 91, 1, 3, 1, 1, 1, 1);
        off(c, 9, 1, 3, -1, -1, -1, -1);
        off(c, 19, 1, 3, -1, -1, -1, -1);
        for (int md : new int[] {-1, 29, 92, 99, 100, Checks.MIN, Checks.MAX}) {
            refused(c, 0, md, 5, 0);
        }
    }

    @Says("light makes no mark, if it is below m, two, if it is below m and d together, else one")
    static void aDrawAtTheEdgeIsNotBelowIt(Checks c) {
        StrokesOnWall x = new StrokesOnWall();
        c.due("the DRAW 5 and m 5", x.rule(0, 50, 1, 5), 0);
        c.due("the DRAW 5 and m 6", x.rule(0, 60, 1, 5), 1);
        c.due("the DRAW 5, m and d 5", x.rule(0, 41, 1, 5), 0);
        c.due("the DRAW 5, m and d 6", x.rule(0, 42, 1, 5), -1);
        c.due("the DRAW 5, m 5 and d 1", x.rule(0, 51, 1, 5), -1);
        c.due("the DRAW 5, m 6 and d 1", x.rule(0, 61, 1, 5), 1);
        c.due("the DRAW 0 and m 0", x.rule(0, 0, 1, 0), 0);
        c.due("the DRAW 0 and m 1", x.rule(0, 10, 1, 0), 1);
        c.due("the DRAW 9 and m 9", x.rule(0, 90, 1, 16), 0);
        c.due("the DRAW 9, m and d 9", x.rule(0, 9, 1, 16), 0);
        c.due("the DRAW 9, m and d 10", x.rule(0, 91, 1, 16), -1);
    }

    @Says("by a second DRAW bread makes marks likewise.")
    static void breadIsTheSecondDraw(Checks c) {
        // By the seed 5 light draws 5, bread 7.
        off(c, 60, 1, 5, 1, 0, 1, 1);
        off(c, 70, 1, 5, 1, 0, 1, 1);
        off(c, 80, 1, 5, 1, 1, 1, 1);
        off(c, 62, 1, 5, 1, -1, 1, 1);
        off(c, 52, 1, 5, -1, -1, -1, 0);
        off(c, 53, 1, 5, -1, -1, -1, -1);
    }

    @Says("the count becomes the least number no less that can be divided by 7;")
    static void theCountBecomesTheLeastNumberNoLess(Checks c) {
        StrokesOnWall x = new StrokesOnWall();
        c.due("7 stays 7", x.rule(2, 0, 7, 0), 0);
        c.due("0 stays 0", x.rule(2, 90, 7, 3), 7);
        c.due("1 becomes 7", x.rule(2, 90, 7, 0), 0);
        c.due("7 of other marks stays 7", x.rule(2, 33, 7, 2), 0);
        c.due("8 becomes 14", x.rule(2, 33, 7, 5), -7);
        c.due("8 without the rule", x.rule(0, 33, 7, 5), -1);
    }

    @Says("behind each day whose number and 1 can be divided by 7")
    static void itIsBehindTheDays6And13(Checks c) {
        StrokesOnWall x = new StrokesOnWall();
        // RULE 0 tells light's marks up to each day.
        int light = 0;
        int count = 0;
        for (int n = 1; n <= 60; n++) {
            int marks = n - x.rule(0, 33, n, 2);
            count += marks - light;
            light = marks;
            while (n % 7 == 0 && count % 7 != 0) {
                count++;
            }
            c.due("rule(2, 33, " + n + ", 2)", x.rule(2, 33, n, 2), n - count);
        }
        c.due("6 days", x.rule(2, 90, 6, 0), 6);
        c.due("7 days", x.rule(2, 90, 7, 0), 0);
        c.due("13 days", x.rule(2, 33, 13, 2), -2);
        c.due("14 days", x.rule(2, 33, 14, 2), -7);
    }

    @Says("how far off it is at the end (n less the count; may be below 0)")
    static void itMayBeBelow0(Checks c) {
        off(c, 9, 60, 5, -59, -60, -60, -51);
        off(c, 1, 60, 5, -10, -14, -42, 0);
        off(c, 90, 60, 4, 58, 55, 46, 60);
        off(c, 10, 60, 4, 4, 0, 0, 8);
    }

    @Says("DRAWS: z becomes z times 1103515245 plus 12345 (an int)")
    static void theSeedComesBackAsAnInt(Checks c) {
        off(c, 21, 60, Checks.MAX, 0, -8, -27, 14);
        off(c, 21, 60, -1, 0, -8, -27, 14);
        off(c, 21, 60, Checks.MIN, 5, -11, -14, 22);
        off(c, 21, 60, 0, 5, -11, -14, 22);
        off(c, 21, 60, 12345, 6, -13, -7, 23);
    }

    @Says("(z without its sign's bit over 65536, cut) modulo n.")
    static void theSignsBitIsLeftAway(Checks c) {
        StrokesOnWall x = new StrokesOnWall();
        // The seeds 2, 3, 6 become numbers below 0; without the sign's bit their DRAWS are 8, 7, 6.
        c.due("the DRAW 8 and m 8", x.rule(0, 80, 1, 2), 0);
        c.due("the DRAW 8 and m 9", x.rule(0, 90, 1, 2), 1);
        c.due("the DRAW 7 and m 7", x.rule(0, 70, 1, 3), 0);
        c.due("the DRAW 7 and m 8", x.rule(0, 80, 1, 3), 1);
        c.due("the DRAW 6 and m 6", x.rule(0, 60, 1, 6), 0);
        c.due("the DRAW 6 and m 7", x.rule(0, 70, 1, 6), 1);
    }

    @Says("1 on each day the greater of both;")
    static void bothAreLookedAtOnEachDay(Checks c) {
        off(c, 60, 2, 5, 1, 0, 1, 1);
        off(c, 55, 10, 1, 0, -8, -3, 4);
        off(c, 33, 10, 2, -1, -7, -1, 3);
    }
}
