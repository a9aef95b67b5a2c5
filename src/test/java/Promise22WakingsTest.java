/** Promise 22: wakings. */
public final class Promise22WakingsTest {
    public static void main(String[] args) {
        Cases.run(Promise22WakingsTest.class);
    }

    private static void wakings(Checks c, int n, int h, int days, int over) {
        StrokesOnWall x = new StrokesOnWall();
        c.due("wakings(" + n + ", " + h + ", 0)", x.wakings(n, h, 0), days);
        c.due("wakings(" + n + ", " + h + ", 1)", x.wakings(n, h, 1), over);
    }

    private static void refused(Checks c, int n, int h, int what) {
        String told = "wakings(" + n + ", " + h + ", " + what + ")";
        c.refused(told, () -> Checks.walled("t1;"), x -> x.wakings(n, h, what), -1);
    }

    @Says("WAKINGS: n of them (0 .. 999)")
    static void wakingsAre0To999(Checks c) {
        wakings(c, 0, 99, 0, 0);
        wakings(c, 999, 99, 4120, 21);
        for (int n : new int[] {-1, 1000, Checks.MIN, Checks.MAX}) {
            refused(c, n, 5, 0);
        }
    }

    @Says("each h hours (1 .. 99) behind the one ahead")
    static void hoursAre1To99(Checks c) {
        wakings(c, 999, 1, 41, 15);
        wakings(c, 1, 99, 4, 3);
        for (int h : new int[] {0, 100, -1, Checks.MIN, Checks.MAX}) {
            refused(c, 5, h, 0);
        }
    }

    @Says("(the first behind the beginning)")
    static void theFirstIsBehindTheBeginning(Checks c) {
        wakings(c, 1, 24, 1, 0);
        wakings(c, 0, 24, 0, 0);
        wakings(c, 2, 24, 2, 0);
    }

    @Says("true days gone (by 24, cut); hours that are over.")
    static void daysAreCut(Checks c) {
        wakings(c, 23, 1, 0, 23);
        wakings(c, 24, 1, 1, 0);
        wakings(c, 25, 1, 1, 1);
        wakings(c, 1, 23, 0, 23);
        wakings(c, 1, 25, 1, 1);
        wakings(c, 7, 10, 2, 22);
        wakings(c, 1, 47, 1, 23);
        wakings(c, 1, 48, 2, 0);
    }

    @Says("WAKINGS: days (what 0), hours that are over (1). -1.")
    static void whatIs0Or1(Checks c) {
        for (int what : new int[] {-1, 2, Checks.MIN, Checks.MAX}) {
            refused(c, 5, 5, what);
        }
    }
}
