/** Promise 9: chance. */
public final class Promise09ChanceTest {
    public static void main(String[] args) {
        Cases.run(Promise09ChanceTest.class);
    }

    private static void chance(Checks c, int md, int t, int s, long above, long below) {
        StrokesOnWall x = new StrokesOnWall();
        String told = "chance(" + md + ", " + t + ", " + s + ", ";
        c.due(told + "0)", x.chance(md, t, s, 0), above);
        c.due(told + "1)", x.chance(md, t, s, 1), below);
    }

    private static void refused(Checks c, int md, int t, int s, int part) {
        String told = "chance(" + md + ", " + t + ", " + s + ", " + part + ")";
        c.refused(told, () -> Checks.walled("t1;"), x -> x.chance(md, t, s, part), -1000000001);
    }

    @Says("there is no stroke by m tenths (0 .. 9)")
    static void mIs0To9(Checks c) {
        chance(c, 0, 1, 0, 0, 1);
        chance(c, 1, 1, 0, 0, 1);
        chance(c, 90, 1, 0, 9, 10);
        refused(c, -1, 1, 0, 0);
        refused(c, -10, 1, 0, 0);
        refused(c, 100, 1, 0, 0);
        refused(c, 109, 1, 0, 0);
        refused(c, Checks.MIN, 1, 0, 0);
        refused(c, Checks.MAX, 1, 0, 0);
    }

    @Says("two by d tenths (0 .. 9; m and d together 10 at most), else one.")
    static void dIs0To9AndBothAre10AtMost(Checks c) {
        chance(c, 0, 1, 2, 0, 1);
        chance(c, 9, 1, 2, 9, 10);
        chance(c, 9, 1, 1, 1, 10);
        chance(c, 19, 1, 1, 0, 1);
        chance(c, 91, 1, 1, 0, 1);
        chance(c, 91, 1, 2, 1, 10);
        chance(c, 55, 1, 0, 1, 2);
        refused(c, 29, 1, 1, 0);
        refused(c, 92, 1, 1, 0);
        refused(c, 56, 1, 1, 0);
        refused(c, 99, 1, 1, 0);
    }

    @Says("two by d tenths (0 .. 9; m and d together 10 at most), else one.")
    static void ofAllTenthsThoseOf10AtMostAreTaken(Checks c) {
        StrokesOnWall x = new StrokesOnWall();
        for (int md = 0; md <= 99; md++) {
            int one = 10 - md / 10 - md % 10;
            // By one day it is so many tenths; a refusal is far below that.
            long tenths = x.chance(md, 1, 1, 0) < 0 ? -1 : x.chance(md, 1, 1, 0) * 10 / x.chance(md, 1, 1, 1);
            c.due("tenths of one stroke, " + md, tenths, one < 0 ? -1 : one);
        }
    }

    @Says("CHANCE of s strokes (0 .. 24) on t days (0 .. 12) altogether")
    static void strokesAre0To24(Checks c) {
        chance(c, 50, 12, 0, 1, 4096);
        chance(c, 91, 12, 24, 1, 1000000000000L);
        chance(c, 9, 12, 24, 282429536481L, 1000000000000L);
        refused(c, 10, 12, -1, 0);
        refused(c, 10, 12, 25, 0);
        refused(c, 10, 12, Checks.MIN, 0);
        refused(c, 10, 12, Checks.MAX, 0);
    }

    @Says("CHANCE of s strokes (0 .. 24) on t days (0 .. 12) altogether")
    static void daysAre0To12(Checks c) {
        chance(c, 37, 0, 0, 1, 1);
        chance(c, 37, 0, 1, 0, 1);
        chance(c, 37, 0, 24, 0, 1);
        chance(c, 0, 12, 12, 1, 1);
        chance(c, 90, 12, 0, 282429536481L, 1000000000000L);
        refused(c, 10, -1, 0, 0);
        refused(c, 10, 13, 0, 0);
        refused(c, 10, Checks.MIN, 0, 0);
        refused(c, 10, Checks.MAX, 0, 0);
    }

    @Says("CHANCE of s strokes (0 .. 24) on t days (0 .. 12) altogether")
    static void noMoreThanTwoOnEachDay(Checks c) {
        chance(c, 1, 5, 10, 1, 100000);
        chance(c, 1, 5, 11, 0, 1);
        chance(c, 81, 12, 23, 3, 250000000000L);
        chance(c, 81, 11, 23, 0, 1);
        chance(c, 10, 5, 5, 59049, 100000);
        chance(c, 10, 5, 6, 0, 1);
        chance(c, 91, 3, 3, 0, 1);
        chance(c, 1, 5, 4, 0, 1);
        chance(c, 1, 5, 5, 59049, 100000);
    }

    @Says("a fraction in least terms.")
    static void theFractionIsInLeastTerms(Checks c) {
        chance(c, 50, 1, 0, 1, 2);
        chance(c, 50, 2, 1, 1, 2);
        chance(c, 20, 1, 1, 4, 5);
        chance(c, 0, 3, 3, 1, 1);
        chance(c, 0, 3, 2, 0, 1);
        chance(c, 55, 12, 12, 231, 1024);
    }

    @Says({"part 0 above, 1 below the line. -1000000001.",
        "where numbers that may be below 0, or longs, are answered (told at the call), 1000000000 less."})
    static void partIs0Or1(Checks c) {
        chance(c, 30, 1, 0, 3, 10);
        refused(c, 30, 1, 0, -1);
        refused(c, 30, 1, 0, 2);
        refused(c, 30, 1, 0, Checks.MIN);
        refused(c, 30, 1, 0, Checks.MAX);
    }
}
