/** Promise 7: week. */
public final class Promise07WeekTest {
    public static void main(String[] args) {
        Cases.run(Promise07WeekTest.class);
    }

    @Says({"WEEK (0 .. 6; 0 at first)", "A refused call changes nothing."})
    static void weekIs0To6(Checks c) {
        StrokesOnWall x = new StrokesOnWall();
        c.due("week(6)", x.week(6), 0);
        c.due("week(0)", x.week(0), 6);
        c.due("count(3)", x.count(3), 0);
        for (int n : new int[] {-1, 7, Checks.MIN, Checks.MAX}) {
            c.refused("week(" + n + ")", () -> Checks.walled("t2;k5;"), y -> y.week(n), -1);
        }
    }

    @Says("WEEK becomes n: what it was. -1.")
    static void whatItWasIsAnswered(Checks c) {
        StrokesOnWall x = new StrokesOnWall();
        int was = 0;
        for (int n : new int[] {1, 2, 3, 4, 5, 6, 6, 0}) {
            c.due("week(" + n + ")", x.week(n), was);
            c.due("count(3)", x.count(3), n);
            was = n;
        }
    }

    @Says("the week day of DAY 0; that of DAY k is (k and WEEK) modulo 7; SUNDAY is 6.")
    static void dawnsThatCameHaveOtherWeekDaysAtOnce(Checks c) {
        StrokesOnWall x = Checks.walled("t9;");
        x.week(6);
        c.due("dawn(0, 3)", x.dawn(0, 3), 6);
        c.due("dawn(1, 3)", x.dawn(1, 3), 0);
        c.due("dawn(8, 3)", x.dawn(8, 3), 0);
        x.week(5);
        c.due("dawn(1, 3)", x.dawn(1, 3), 6);
        c.due("dawn(2, 3)", x.dawn(2, 3), 0);
    }
}
