import java.util.Arrays;

/** Promise 24: diary. */
public final class Promise24DiaryTest {
    private static final int D = 6;

    public static void main(String[] args) {
        Cases.run(Promise24DiaryTest.class);
    }

    private static StrokesOnWall told(int week, int... diary) {
        StrokesOnWall x = Checks.walled("t2;");
        x.week(week);
        Checks.row(x, D, 0, diary);
        return x;
    }

    private static void diary(Checks c, int week, int want, int... diary) {
        c.due("diary of " + Arrays.toString(diary) + ", WEEK " + week, told(week, diary).diary(D), want);
    }

    private static void notAsTold(Checks c, int... diary) {
        c.refused("diary of " + Arrays.toString(diary), () -> told(0, diary), x -> x.diary(D), -13);
    }

    @Says("DIARY: a ROW of bytes by twos")
    static void anEmptyRowHasNoFalseDay(Checks c) {
        diary(c, 0, -4);
        diary(c, 6, -4);
    }

    @Says("a DAY (0 .. 99, counted from DAY 0)")
    static void daysAre0To99(Checks c) {
        diary(c, 0, -4, 0, 0, 99, 1);
        diary(c, 0, 0, 99, 2);
        notAsTold(c, 100, 2);
        notAsTold(c, -1, 6);
        notAsTold(c, 127, 1);
        notAsTold(c, -128, 5);
        notAsTold(c, 0, 0, 100, 2);
        // There are two DAWNS only, but a DAY needs none.
        diary(c, 0, -4, 2, 2);
        c.due("diary on no wall", onNoWall(), -4);
    }

    private static int onNoWall() {
        StrokesOnWall x = new StrokesOnWall();
        Checks.row(x, D, 0, 0, 0, 99, 1);
        return x.diary(D);
    }

    @Says("and a week day (0 .. 6)")
    static void weekDaysAre0To6(Checks c) {
        diary(c, 0, -4, 0, 0, 6, 6);
        notAsTold(c, 7, 7);
        notAsTold(c, 6, -1);
        notAsTold(c, 6, 127);
        notAsTold(c, 0, 0, 1, 8);
    }

    @Says("that of DAY k is (k and WEEK) modulo 7; SUNDAY is 6.")
    static void weekDaysComeBackTo0(Checks c) {
        diary(c, 0, -4, 6, 6, 7, 0, 13, 6, 14, 0);
        diary(c, 6, -4, 0, 6, 1, 0, 7, 6, 8, 0, 99, 0);
        diary(c, 3, -4, 3, 6, 4, 0, 99, 4);
        diary(c, 3, 2, 3, 6, 4, 4);
    }

    @Says("the place in the ROW of the DAY of the first whose week day isn't so")
    static void thePlaceOfTheFirst(Checks c) {
        diary(c, 0, 0, 0, 1, 1, 2);
        diary(c, 0, 2, 0, 0, 1, 2, 2, 3);
        diary(c, 0, 4, 1, 1, 2, 2, 3, 4);
        diary(c, 1, 0, 0, 0);
        StrokesOnWall x = new StrokesOnWall();
        x.row(D, 0, 100);
        for (int day = 0; day < 50; day++) {
            x.put(D, 2 * day, day);
            x.put(D, 2 * day + 1, day % 7);
        }
        c.due("diary of 50", x.diary(D), -4);
        x.put(D, 99, 1);
        c.due("diary, the latest is off", x.diary(D), 98);
    }

    @Says("or whose DAY isn't later than that ahead; -4.")
    static void eachDayIsLaterThanThatAhead(Checks c) {
        diary(c, 0, -4, 5, 5, 6, 6);
        diary(c, 0, 2, 5, 5, 5, 5);
        diary(c, 0, 2, 5, 5, 4, 4, 6, 6);
        diary(c, 0, 4, 1, 1, 9, 2, 5, 5);
        diary(c, 0, 2, 0, 0, 0, 0);
    }

    @Says({"DIARY by the ROW in SHELF d; -4. -1, -11, -12 (no ROW of bytes), -13 (an odd size, not as told).",
        "(a number or a size that isn't as told, too)"})
    static void anOddSizeIsRefused(Checks c) {
        notAsTold(c, 0);
        notAsTold(c, 0, 0, 1);
        notAsTold(c, 0, 1, 1);
        c.refused("diary of 99", () -> {
            StrokesOnWall x = new StrokesOnWall();
            x.row(D, 0, 99);
            return x;
        }, x -> x.diary(D), -13);
    }

    @Says({"Answers of several refusals are the first one as they are told at the call",
        "-13 (an odd size, not as told)"})
    static void aRefusalGoesAheadOfAFalseDay(Checks c) {
        notAsTold(c, 0, 5, 100, 2);
        notAsTold(c, 0, 5, 1, 7);
        notAsTold(c, 5, 5, 5, 5, -1, 6);
        notAsTold(c, 0, 5, 1);
    }

    @Says("-1, -11, -12 (no ROW of bytes), -13 (an odd size, not as told).")
    static void refusals(Checks c) {
        for (int d : new int[] {-1, 8, Checks.MIN, Checks.MAX}) {
            c.refused("diary(" + d + ")", () -> told(0, 0, 0), x -> x.diary(d), -1);
        }
        c.refused("diary of nothing", () -> told(0), x -> x.diary(5), -11);
        c.refused("diary of a DAWN", () -> Checks.dawned(1, 0, 1), x -> x.diary(1), -12);
        for (int sort = 1; sort < 3; sort++) {
            int other = sort;
            c.refused("diary of SORT " + sort, () -> {
                StrokesOnWall x = new StrokesOnWall();
                Checks.row(x, D, other, 0, 0);
                return x;
            }, x -> x.diary(D), -12);
        }
        for (int d : new int[] {0, 7}) {
            StrokesOnWall x = new StrokesOnWall();
            x.row(d, 0, 2);
            c.due("diary(" + d + ")", x.diary(d), -4);
        }
    }

    @Says({"Answers of several refusals are the first one as they are told at the call",
        "-12 (no ROW of bytes), -13 (an odd size, not as told)."})
    static void theFirstRefusalIsTold(Checks c) {
        StrokesOnWall x = new StrokesOnWall();
        x.row(D, 1, 1);
        c.due("diary of 1 short", x.diary(D), -12);
        Checks.row(x, D, 2, 100, 7);
        c.due("diary of ints not as told", x.diary(D), -12);
    }

    @Says("The ROW that is read, and what is taken from a SHELF, stay there;")
    static void theDiaryStays(Checks c) {
        StrokesOnWall x = told(0, 5, 5, 4, 4);
        x.diary(D);
        c.dueText("SHELF 6", Checks.elements(x, D), "5 5 4 4 IllegalStateException");
    }
}
