/** Promise 8: entry. */
public final class Promise08EntryTest {
    public static void main(String[] args) {
        Cases.run(Promise08EntryTest.class);
    }

    @Says("ENTRIES are BOUND DAWNS, as they come.")
    static void entriesAreBoundDawnsAsTheyCome(Checks c) {
        StrokesOnWall x = Checks.walled("d62;d00;d10;d20;d30;d40;d50;d70;d60;d69;");
        int[] days = {0, 8, 9};
        int[] thoughts = {1, 9, 10};
        for (int i = 0; i < 3; i++) {
            c.due("entry(" + i + ", 0)", x.entry(i, 0), days[i]);
            c.due("entry(" + i + ", 1)", x.entry(i, 1), thoughts[i]);
        }
    }

    @Says("-4 none such.")
    static void noneSuch(Checks c) {
        c.due("entry(0, 0) of none", new StrokesOnWall().entry(0, 0), -4);
        c.due("entry(0, 1) of none", new StrokesOnWall().entry(0, 1), -4);
        StrokesOnWall x = Checks.walled("d10;d60;d60;");
        for (int what = 0; what < 2; what++) {
            c.due("entry(1, " + what + ")", x.entry(1, what), what == 0 ? 2 : 3);
            for (int i : new int[] {2, 3, 40, Checks.MAX}) {
                c.due("entry(" + i + ", " + what + ")", x.entry(i, what), -4);
            }
        }
        x.back();
        c.due("entry(1, 0) behind back()", x.entry(1, 0), -4);
        c.due("entry(0, 0) of no BOUND one", Checks.walled("t40;").entry(0, 0), -4);
    }

    @Says("DAWNS 0 .. 39 as they come")
    static void fortyEntries(Checks c) {
        StrokesOnWall x = Checks.dawned(6, 0, 40);
        c.due("entry(0, 0)", x.entry(0, 0), 0);
        c.due("entry(39, 0)", x.entry(39, 0), 39);
        c.due("entry(39, 1)", x.entry(39, 1), 40);
        c.due("entry(40, 0)", x.entry(40, 0), -4);
    }

    @Says("-1 (i below 0, another what; ahead of -4).")
    static void refusals(Checks c) {
        StrokesOnWall x = Checks.walled("d60;");
        for (int i : new int[] {-1, Checks.MIN}) {
            c.due("entry(" + i + ", 0)", x.entry(i, 0), -1);
            c.due("entry(" + i + ", 1)", x.entry(i, 1), -1);
        }
        for (int what : new int[] {-1, 2, Checks.MIN, Checks.MAX}) {
            c.due("entry(0, " + what + ")", x.entry(0, what), -1);
        }
        c.due("entry(-1, 2)", x.entry(-1, 2), -1);
    }

    @Says("-1 (i below 0, another what; ahead of -4).")
    static void noSuchGoesAheadOfNone(Checks c) {
        StrokesOnWall x = Checks.walled("d60;");
        c.due("entry(1, 2)", x.entry(1, 2), -1);
        c.due("entry(1, -1)", x.entry(1, -1), -1);
        StrokesOnWall none = new StrokesOnWall();
        c.due("entry(-1, 0) of none", none.entry(-1, 0), -1);
        c.due("entry(0, 2) of none", none.entry(0, 2), -1);
    }
}
