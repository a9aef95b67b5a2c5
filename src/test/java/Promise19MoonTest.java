/** Promise 19: moon. */
public final class Promise19MoonTest {
    public static void main(String[] args) {
        Cases.run(Promise19MoonTest.class);
    }

    @Says({"MOON of a day of the year (0 .. 364)", "MOON. -1."})
    static void daysAre0To364(Checks c) {
        StrokesOnWall x = new StrokesOnWall();
        c.due("moon(0)", x.moon(0), 7);
        c.due("moon(364)", x.moon(364), 21);
        for (int day : new int[] {-1, 365, Checks.MIN, Checks.MAX}) {
            c.refused("moon(" + day + ")", () -> Checks.walled("t1;"), y -> y.moon(day), -1);
        }
    }

    @Says("(11 times the day, and 7) modulo 30.")
    static void theMoonComesBackTo0(Checks c) {
        StrokesOnWall x = new StrokesOnWall();
        c.due("moon(2)", x.moon(2), 29);
        c.due("moon(3)", x.moon(3), 10);
        c.due("moon(13)", x.moon(13), 0);
        c.due("moon(29)", x.moon(29), 26);
        c.due("moon(30)", x.moon(30), 7);
        int moon = 7;
        for (int day = 0; day <= 364; day++) {
            c.due("moon(" + day + ")", x.moon(day), moon);
            moon = moon + 11 < 30 ? moon + 11 : moon - 19;
        }
    }
}
