import java.util.Arrays;

/** Promise 16: events. */
public final class Promise16EventsTest {
    private static final int D = 5;
    private static final String WALL = "d10;d20;d30;d45;";

    public static void main(String[] args) {
        Cases.run(Promise16EventsTest.class);
    }

    private static StrokesOnWall told(String wall, int... events) {
        StrokesOnWall x = Checks.walled(wall);
        Checks.row(x, D, 2, events);
        return x;
    }

    private static void events(Checks c, int want, int... events) {
        c.due("events of " + Arrays.toString(events), told(WALL, events).events(D), want);
    }

    private static void refused(Checks c, String wall, int want, int... events) {
        c.refused("events of " + Arrays.toString(events), () -> told(wall, events), x -> x.events(D), want);
    }

    @Says("the place in the ROW of the first THOUGHT that isn't that behind so many DAWNS; -4.")
    static void thePlaceOfTheFirst(Checks c) {
        events(c, -4, 1, 1, 1, 2, 3, 3, 8, 4);
        events(c, 0, 0, 1, 2, 1);
        events(c, 2, 8, 4, 2, 1, 1, 2);
        events(c, 6, 8, 4, 3, 3, 1, 2, -1, 1);
        events(c, 6, 1, 1, 1, 1, 1, 1, 8, 1);
        events(c, 0, Checks.MIN, 1);
        events(c, 0, Checks.MAX, 1);
    }

    @Says("the place in the ROW of the first THOUGHT that isn't that behind so many DAWNS; -4.")
    static void inAFullRow(Checks c) {
        StrokesOnWall x = Checks.walled("t3;");
        x.row(D, 2, 100);
        for (int i = 0; i < 100; i++) {
            x.put(D, i, 2);
        }
        c.due("events of 50", x.events(D), -4);
        x.put(D, 98, 3);
        c.due("events, the latest is off", x.events(D), 98);
        x.put(D, 0, 1);
        c.due("events, the first is off, too", x.events(D), 0);
    }

    @Says("TOLD EVENTS: a ROW of ints by twos")
    static void anEmptyRowHasNoFalseOne(Checks c) {
        events(c, -4);
        c.due("no events on no wall", told("t0;").events(D), -4);
    }

    @Says({"-13 (an odd size, a true day that is not 1 .. how many DAWNS there are)",
        "(a number or a size that isn't as told, too)"})
    static void anOddSizeIsRefused(Checks c) {
        refused(c, WALL, -13, 1);
        refused(c, WALL, -13, 1, 1, 1);
        refused(c, WALL, -13, 9, 1, 1);
        events(c, -4, 1, 1);
        c.refused("events of 99", () -> {
            StrokesOnWall x = Checks.walled(WALL);
            x.row(D, 2, 99);
            return x;
        }, x -> x.events(D), -13);
    }

    @Says("-13 (an odd size, a true day that is not 1 .. how many DAWNS there are)")
    static void trueDaysAre1ToHowManyDawns(Checks c) {
        events(c, -4, 1, 1);
        events(c, -4, 8, 4);
        refused(c, WALL, -13, 1, 0);
        refused(c, WALL, -13, 1, 5);
        refused(c, WALL, -13, 1, -1);
        refused(c, WALL, -13, 1, Checks.MIN);
        refused(c, WALL, -13, 1, Checks.MAX);
        refused(c, WALL, -13, 1, 1, 8, 5);
        refused(c, "t0;", -13, 0, 0);
        refused(c, "t0;", -13, 0, 1);
        c.due("events behind 40", told("t40;", 40, 40, 1, 1).events(D), -4);
        refused(c, "t40;", -13, 40, 41);
    }

    @Says("-13 (an odd size, a true day that is not 1 .. how many DAWNS there are)")
    static void aRefusalGoesAheadOfAFalseOne(Checks c) {
        refused(c, WALL, -13, 9, 1, 1, 0);
        refused(c, WALL, -13, 9, 1, 1, 5);
        StrokesOnWall x = told(WALL, 8, 4);
        c.due("events behind 4 of 4", x.events(D), -4);
        x.back();
        c.due("events behind 4 of 3", x.events(D), -13);
    }

    @Says("TOLD EVENTS by the ROW in SHELF d; -4. -1, -11, -12 (no ROW of ints)")
    static void refusals(Checks c) {
        for (int d : new int[] {-1, 8, Checks.MIN, Checks.MAX}) {
            c.refused("events(" + d + ")", () -> told(WALL, 1, 1), x -> x.events(d), -1);
        }
        c.refused("events of nothing", () -> told(WALL), x -> x.events(4), -11);
        c.refused("events of a DAWN", () -> Checks.dawned(1, 0, 1), x -> x.events(1), -12);
        for (int sort = 0; sort < 2; sort++) {
            int other = sort;
            c.refused("events of SORT " + sort, () -> {
                StrokesOnWall x = Checks.walled(WALL);
                Checks.row(x, D, other, 1, 1);
                return x;
            }, x -> x.events(D), -12);
        }
        for (int d : new int[] {0, 7}) {
            StrokesOnWall x = new StrokesOnWall();
            x.row(d, 2, 0);
            c.due("events(" + d + ")", x.events(d), -4);
        }
    }

    @Says({"Answers of several refusals are the first one as they are told at the call",
        "-12 (no ROW of ints), -13 (an odd size, a true day"})
    static void theFirstRefusalIsTold(Checks c) {
        StrokesOnWall x = Checks.walled(WALL);
        x.row(D, 0, 1);
        c.due("events of 1 byte", x.events(D), -12);
        x.row(D, 1, 2);
        c.due("events of shorts behind 0 DAWNS", x.events(D), -12);
    }

    @Says("The ROW that is read, and what is taken from a SHELF, stay there;")
    static void theEventsStay(Checks c) {
        StrokesOnWall x = told(WALL, 8, 4, 7, 3);
        x.events(D);
        c.dueText("SHELF 5", Checks.elements(x, D), "8 4 7 3 IllegalStateException");
    }
}
