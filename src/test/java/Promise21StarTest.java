/** Promise 21: star. It stands at 1439 on the days 0 and 360, at 3 on day 359, at 1423 on the days 4 and 364. */
public final class Promise21StarTest {
    public static void main(String[] args) {
        Cases.run(Promise21StarTest.class);
    }

    private static void star(Checks c, int minute, int e, int many, int first) {
        StrokesOnWall x = new StrokesOnWall();
        c.due("star(" + minute + ", " + e + ", 0)", x.star(minute, e, 0), many);
        c.due("star(" + minute + ", " + e + ", 1)", x.star(minute, e, 1), first);
    }

    private static void refused(Checks c, int minute, int e, int what) {
        String told = "star(" + minute + ", " + e + ", " + what + ")";
        c.refused(told, () -> Checks.walled("t1;"), x -> x.star(minute, e, what), -1);
    }

    @Says("at the minute 1439 less 4 x, 1440 more if that is below 0")
    static void theMinuteComesBack(Checks c) {
        star(c, 1439, 0, 2, 0);
        star(c, 1435, 0, 2, 1);
        star(c, 1423, 0, 2, 4);
        star(c, 1419, 0, 1, 5);
        star(c, 7, 0, 1, 358);
        star(c, 3, 0, 1, 359);
    }

    @Says("on day x (0 .. 364)")
    static void daysAre0To364(Checks c) {
        star(c, 1439, 3, 2, 0);
        star(c, 1423, 3, 2, 4);
        star(c, 1439, 99, 30, 0);
        star(c, 1423, 5, 5, 3);
    }

    @Says("no farther than e (0 .. 99)")
    static void theSlipIs0To99(Checks c) {
        star(c, 3, 0, 1, 359);
        star(c, 4, 0, 0, -4);
        star(c, 2, 0, 0, -4);
        star(c, 4, 1, 1, 359);
        star(c, 2, 1, 1, 359);
        star(c, 5, 2, 2, 358);
        star(c, 3, 98, 25, 335);
        star(c, 3, 99, 25, 335);
        star(c, 4, 99, 26, 334);
        for (int e : new int[] {-1, 100, Checks.MIN, Checks.MAX}) {
            refused(c, 9, e, 0);
        }
    }

    @Says("from a told minute (0 .. 1439; not round)")
    static void notRound(Checks c) {
        star(c, 0, 0, 0, -4);
        star(c, 0, 2, 0, -4);
        star(c, 0, 3, 1, 359);
        star(c, 1439, 0, 2, 0);
        star(c, 1438, 1, 2, 0);
        // From 1439 to 3 it is 4 minutes round, and from 3 to 1439, too.
        star(c, 1439, 4, 4, 0);
        star(c, 3, 4, 2, 358);
    }

    @Says("-1 (a minute 0 .. 1439).")
    static void minutesAre0To1439(Checks c) {
        star(c, 0, 99, 25, 335);
        star(c, 1439, 99, 30, 0);
        for (int minute : new int[] {-1, 1440, Checks.MIN, Checks.MAX}) {
            refused(c, minute, 5, 0);
        }
    }

    @Says("STAR: how many (what 0), the first (1; -4).")
    static void whatIs0Or1(Checks c) {
        for (int what : new int[] {-1, 2, Checks.MIN, Checks.MAX}) {
            refused(c, 1439, 5, what);
        }
        // None is there at 0, but what is out of range goes ahead.
        refused(c, 0, 0, 2);
        refused(c, -1, 0, 1);
        refused(c, 0, -1, 1);
    }
}
