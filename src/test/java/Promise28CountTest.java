/** Promise 28: count. */
public final class Promise28CountTest {
    public static void main(String[] args) {
        Cases.run(Promise28CountTest.class);
    }

    private static void counts(Checks c, StrokesOnWall x, int... due) {
        for (int what = 0; what < 5; what++) {
            c.due("count(" + what + ")", x.count(what), due[what]);
        }
    }

    @Says("0 DAWNS, 1 THOUGHT now, 2 ENTRIES, 3 WEEK, 4 MISSED or SCRAPED DAWNS; -1 for others.")
    static void minus1ForOthers(Checks c) {
        StrokesOnWall x = Checks.walled("d20;d55;d60;d30;d69;d00;d47;d71;k2;d29;");
        counts(c, x, 9, 15, 2, 2, 3);
        for (int what : new int[] {-1, 5, Checks.MIN, Checks.MAX}) {
            c.refused("count(" + what + ")", () -> Checks.walled("t2;"), y -> y.count(what), -1);
        }
    }

    @Says("0 DAWNS, 1 THOUGHT now")
    static void of0To40Dawns(Checks c) {
        counts(c, new StrokesOnWall(), 0, 0, 0, 0, 0);
        counts(c, Checks.walled("t40;k6;"), 40, 40, 0, 6, 0);
        counts(c, Checks.dawned(4, 9, 40), 40, 360, 0, 0, 0);
    }

    @Says("2 ENTRIES, 3 WEEK, 4 MISSED or SCRAPED DAWNS;")
    static void ofEachKind(Checks c) {
        for (int kind = 0; kind < 8; kind++) {
            StrokesOnWall x = Checks.dawned(kind, 1, 40);
            c.due("count(0) of " + kind, x.count(0), 40);
            c.due("count(2) of " + kind, x.count(2), kind == 6 ? 40 : 0);
            c.due("count(4) of " + kind, x.count(4), kind == 2 || kind == 5 ? 40 : 0);
        }
    }
}
