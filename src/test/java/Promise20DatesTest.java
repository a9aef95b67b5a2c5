/** Promise 20: dates. MOON is 7 on the days 0, 30, .. 360, 18 on day 1, 29 on day 2, 10 on day 3, 0 on day 13. */
public final class Promise20DatesTest {
    public static void main(String[] args) {
        Cases.run(Promise20DatesTest.class);
    }

    private static void dates(Checks c, int from, int to, int moon, int e, int many, int first) {
        StrokesOnWall x = new StrokesOnWall();
        String told = "dates(" + from + ", " + to + ", " + moon + ", " + e + ", ";
        c.due(told + "0)", x.dates(from, to, moon, e, 0), many);
        c.due(told + "1)", x.dates(from, to, moon, e, 1), first);
    }

    private static void refused(Checks c, int from, int to, int moon, int e, int what) {
        String told = "dates(" + from + ", " + to + ", " + moon + ", " + e + ", " + what + ")";
        c.refused(told, () -> Checks.walled("t1;"), x -> x.dates(from, to, moon, e, what), -1);
    }

    @Says("of days from one on to another one (0 .. 364 each, both of them;")
    static void daysAre0To364(Checks c) {
        dates(c, 0, 0, 7, 0, 1, 0);
        dates(c, 364, 364, 21, 0, 1, 364);
        dates(c, 0, 364, 7, 0, 13, 0);
        for (int day : new int[] {-1, 365, Checks.MIN, Checks.MAX}) {
            refused(c, day, 100, 7, 5, 0);
            refused(c, 100, day, 7, 5, 0);
        }
        refused(c, 365, 366, 7, 5, 0);
        refused(c, -2, -1, 7, 5, 0);
    }

    @Says("of days from one on to another one (0 .. 364 each, both of them;")
    static void bothDaysAreLookedAt(Checks c) {
        dates(c, 30, 60, 7, 0, 2, 30);
        dates(c, 31, 60, 7, 0, 1, 60);
        dates(c, 30, 59, 7, 0, 1, 30);
        dates(c, 31, 59, 7, 0, 0, -4);
    }

    @Says("none, if that is earlier)")
    static void noneIfTheOtherDayIsEarlier(Checks c) {
        dates(c, 30, 30, 7, 0, 1, 30);
        dates(c, 30, 29, 7, 14, 0, -4);
        dates(c, 364, 0, 7, 14, 0, -4);
        dates(c, 1, 0, 7, 14, 0, -4);
    }

    @Says("no farther than e (0 .. 14)")
    static void theSlipIs0To14(Checks c) {
        // On day 1 MOON is 18.
        dates(c, 1, 1, 18, 0, 1, 1);
        dates(c, 1, 1, 19, 0, 0, -4);
        dates(c, 1, 1, 17, 0, 0, -4);
        dates(c, 1, 1, 4, 14, 1, 1);
        dates(c, 1, 1, 4, 13, 0, -4);
        dates(c, 1, 1, 2, 14, 1, 1);
        dates(c, 1, 1, 3, 14, 0, -4);
        for (int e : new int[] {-1, 15, Checks.MIN, Checks.MAX}) {
            refused(c, 0, 364, 7, e, 0);
        }
    }

    @Says("from a told one (0 .. 29; the shorter way round 30)")
    static void theShorterWayRound(Checks c) {
        // On day 2 MOON is 29, on day 13 it is 0, on day 3 it is 10.
        dates(c, 2, 2, 0, 1, 1, 2);
        dates(c, 2, 2, 0, 0, 0, -4);
        dates(c, 2, 2, 1, 2, 1, 2);
        dates(c, 2, 2, 1, 1, 0, -4);
        dates(c, 13, 13, 29, 1, 1, 13);
        dates(c, 13, 13, 16, 14, 1, 13);
        dates(c, 13, 13, 15, 14, 0, -4);
        dates(c, 3, 3, 26, 14, 1, 3);
        dates(c, 3, 3, 25, 14, 0, -4);
        dates(c, 3, 3, 24, 14, 1, 3);
        dates(c, 0, 364, 29, 1, 37, 2);
        dates(c, 0, 29, 0, 14, 29, 0);
    }

    @Says("from a told one (0 .. 29; the shorter way round 30)")
    static void theToldOneIs0To29(Checks c) {
        dates(c, 0, 29, 0, 0, 1, 13);
        dates(c, 0, 29, 29, 0, 1, 2);
        for (int moon : new int[] {-1, 30, Checks.MIN, Checks.MAX}) {
            refused(c, 0, 364, moon, 5, 0);
        }
    }

    @Says("DATES: how many (what 0), the first (1; -4). -1.")
    static void whatIs0Or1(Checks c) {
        for (int what : new int[] {-1, 2, Checks.MIN, Checks.MAX}) {
            refused(c, 0, 364, 7, 5, what);
        }
    }

    /** Of what is out of range it can't be told whether there is none. */
    @Says("DATES: how many (what 0), the first (1; -4). -1.")
    static void outOfRangeGoesAheadOfNone(Checks c) {
        refused(c, 365, 0, 7, 5, 1);
        refused(c, 0, -1, 7, 5, 1);
        refused(c, 9, 5, 30, 5, 1);
        refused(c, 9, 5, 7, 15, 1);
        refused(c, 9, 5, 7, 5, 2);
    }
}
