/** Promise 13: lost. Where no day has two strokes, a day is without one by t less s in t. */
public final class Promise13LostTest {
    public static void main(String[] args) {
        Cases.run(Promise13LostTest.class);
    }

    private static void lost(Checks c, int md, int t, int s, int i, long above, long below) {
        StrokesOnWall x = new StrokesOnWall();
        String told = "lost(" + md + ", " + t + ", " + s + ", " + i + ", ";
        c.due(told + "0)", x.lost(md, t, s, i, 0), above);
        c.due(told + "1)", x.lost(md, t, s, i, 1), below);
    }

    private static void refused(Checks c, int md, int t, int s, int i, int part) {
        String told = "lost(" + md + ", " + t + ", " + s + ", " + i + ", " + part + ")";
        c.refused(told, () -> Checks.walled("t1;"), x -> x.lost(md, t, s, i, part), -1000000001);
    }

    @Says("LOST: if there were s strokes on t days (1 .. 12) altogether")
    static void daysAre1To12(Checks c) {
        lost(c, 30, 1, 0, 1, 1, 1);
        lost(c, 30, 12, 11, 1, 1, 12);
        refused(c, 30, 0, 0, 0, 0);
        refused(c, 30, 0, 0, 1, 0);
        refused(c, 30, 13, 1, 1, 0);
        refused(c, 30, -1, 1, 1, 0);
        refused(c, 30, Checks.MIN, 1, 1, 0);
        refused(c, 30, Checks.MAX, 1, 1, 0);
    }

    @Says("how likely there was none on day i of them (1 .. t)")
    static void theDayIs1ToT(Checks c) {
        for (int i = 1; i <= 12; i++) {
            lost(c, 30, 12, 8, i, 1, 3);
        }
        lost(c, 30, 1, 1, 1, 0, 1);
        for (int i : new int[] {0, 4, -1, 13, Checks.MIN, Checks.MAX}) {
            refused(c, 30, 3, 1, i, 0);
        }
        refused(c, 30, 1, 1, 2, 0);
        refused(c, 30, 12, 1, 13, 0);
    }

    @Says("a fraction in least terms (0 by 1, if that can't be).")
    static void whatCantBeIs0By1(Checks c) {
        lost(c, 30, 4, 5, 1, 0, 1);
        lost(c, 30, 12, 24, 12, 0, 1);
        lost(c, 31, 2, 5, 1, 0, 1);
        lost(c, 91, 2, 3, 1, 0, 1);
        lost(c, 0, 3, 2, 1, 0, 1);
    }

    @Says("how likely there was none on day i of them (1 .. t): a fraction in least terms")
    static void neverAndSurelyNone(Checks c) {
        lost(c, 30, 4, 4, 1, 0, 1);
        lost(c, 0, 3, 3, 2, 0, 1);
        lost(c, 11, 2, 4, 1, 0, 1);
        lost(c, 30, 4, 0, 1, 1, 1);
        lost(c, 91, 12, 0, 12, 1, 1);
        lost(c, 30, 4, 2, 3, 1, 2);
        // Two days and two strokes: one on each by 64, two on one by 1 and 1.
        lost(c, 11, 2, 2, 1, 1, 66);
        lost(c, 55, 2, 2, 2, 1, 2);
    }

    @Says("CHANCE of s strokes (0 .. 24)")
    static void strokesAre0To24(Checks c) {
        lost(c, 91, 12, 24, 1, 0, 1);
        lost(c, 91, 12, 22, 1, 1, 12);
        for (int s : new int[] {-1, 25, Checks.MIN, Checks.MAX}) {
            refused(c, 30, 3, s, 1, 0);
        }
    }

    @Says("m tenths (0 .. 9), two by d tenths (0 .. 9; m and d together 10 at most)")
    static void tenthsAre10AtMost(Checks c) {
        lost(c, 90, 2, 1, 1, 1, 2);
        lost(c, 91, 2, 2, 1, 1, 2);
        lost(c, 9, 2, 2, 1, 0, 1);
        for (int md : new int[] {-1, 29, 92, 99, 100, Checks.MIN, Checks.MAX}) {
            refused(c, md, 2, 1, 1, 0);
        }
    }

    @Says({"LOST, part 0 above, 1 below the line. -1000000001.",
        "where numbers that may be below 0, or longs, are answered (told at the call), 1000000000 less."})
    static void partIs0Or1(Checks c) {
        for (int part : new int[] {-1, 2, Checks.MIN, Checks.MAX}) {
            refused(c, 30, 2, 1, 1, part);
        }
    }
}
