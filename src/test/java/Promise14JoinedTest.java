import java.util.Arrays;

/** Promise 14: joined. */
public final class Promise14JoinedTest {
    private static final int D = 5;

    public static void main(String[] args) {
        Cases.run(Promise14JoinedTest.class);
    }

    private static StrokesOnWall knocks(int... knocks) {
        StrokesOnWall x = Checks.walled("t2;");
        Checks.row(x, D, 2, knocks);
        return x;
    }

    private static void joined(Checks c, int number, int sum, int... knocks) {
        StrokesOnWall x = knocks(knocks);
        c.due("joined(0) of " + Arrays.toString(knocks), x.joined(D, 0), number);
        c.due("joined(1) of " + Arrays.toString(knocks), x.joined(D, 1), sum);
    }

    private static void notAsTold(Checks c, int... knocks) {
        for (int what = 0; what < 2; what++) {
            int asked = what;
            String told = "joined(" + what + ") of " + Arrays.toString(knocks);
            c.refused(told, () -> knocks(knocks), x -> x.joined(D, asked), -1000000013);
        }
    }

    @Says({"what each of several (1 .. 8) thinks", "(a number or a size that isn't as told, too)"})
    static void knocksAre1To8(Checks c) {
        joined(c, 7, 0, 7);
        joined(c, 4, 16, 8, 7, 6, 5, 4, 3, 2, 1);
        notAsTold(c);
        notAsTold(c, 1, 2, 3, 4, 5, 6, 7, 8, 9);
        c.refused("joined of 100", () -> {
            StrokesOnWall x = new StrokesOnWall();
            x.row(D, 2, 100);
            return x;
        }, x -> x.joined(D, 0), -1000000013);
    }

    @Says("a number not in -9999 .. 9999).")
    static void numbersAreIn9999(Checks c) {
        joined(c, 9999, 0, 9999);
        joined(c, -9999, 0, -9999);
        notAsTold(c, 10000);
        notAsTold(c, -10000);
        notAsTold(c, Checks.MAX);
        notAsTold(c, Checks.MIN);
        notAsTold(c, 10000, 1);
        notAsTold(c, 1, 2, 3, 4, 5, 6, 7, -10000);
    }

    @Says("of several the least; that sum.")
    static void ofSeveralTheLeast(Checks c) {
        joined(c, 3, 4, 7, 3);
        joined(c, 3, 4, 3, 7);
        joined(c, -1, 2, 1, -1);
        joined(c, 2, 4, 1, 2, 3, 4);
        joined(c, 2, 4, 4, 3, 2, 1);
        joined(c, 5, 0, 5, 5);
    }

    @Says("the number for which all differences without sign together are least")
    static void theGreatestSum(Checks c) {
        joined(c, -9999, 79992, 9999, -9999, 9999, -9999, 9999, -9999, 9999, -9999);
        joined(c, 9999, 59994, -9999, -9999, -9999, 9999, 9999, 9999, 9999);
        joined(c, 0, 19998, 0, 9999, -9999);
        // The refusal of an empty ROW is far from what is joined at -1, -11 to -13.
        joined(c, -1, 0, -1);
        joined(c, -11, 0, -11, -11);
        joined(c, -12, 0, -12);
        joined(c, -13, 0, -13);
    }

    @Says("JOINED by the ROW in SHELF d: the number (what 0), the sum (1). -1000000001")
    static void whatIs0Or1(Checks c) {
        for (int what : new int[] {-1, 2, Checks.MIN, Checks.MAX}) {
            c.refused("joined(5, " + what + ")", () -> knocks(1, 2), x -> x.joined(D, what), -1000000001);
        }
    }

    @Says({"-1000000001, -1000000011, -1000000012 (no ROW of ints)",
        "where numbers that may be below 0, or longs, are answered (told at the call), 1000000000 less."})
    static void refusals(Checks c) {
        for (int d : new int[] {-1, 8, Checks.MIN, Checks.MAX}) {
            c.refused("joined(" + d + ", 0)", () -> knocks(1, 2), x -> x.joined(d, 0), -1000000001);
        }
        c.refused("joined by nothing", () -> knocks(1), x -> x.joined(4, 0), -1000000011);
        c.refused("joined by a DAWN", () -> Checks.dawned(1, 0, 1), x -> x.joined(1, 0), -1000000012);
        for (int sort = 0; sort < 2; sort++) {
            int other = sort;
            c.refused("joined by SORT " + sort, () -> {
                StrokesOnWall x = new StrokesOnWall();
                Checks.row(x, D, other, 1, 2);
                return x;
            }, x -> x.joined(D, 0), -1000000012);
        }
        for (int d : new int[] {0, 7}) {
            StrokesOnWall x = new StrokesOnWall();
            x.row(d, 2, 1);
            c.due("joined(" + d + ", 0)", x.joined(d, 0), 0);
        }
    }

    @Says({"Answers of several refusals are the first one as they are told at the call",
        "-1000000001, -1000000011, -1000000012 (no ROW of ints), -1000000013 (empty, more than 8"})
    static void theFirstRefusalIsTold(Checks c) {
        c.due("joined(4, 2) of nothing", knocks(1).joined(4, 2), -1000000001);
        c.due("joined(1, 2) of a DAWN", Checks.dawned(1, 0, 1).joined(1, 2), -1000000001);
        c.due("joined(5, 2), empty", knocks().joined(D, 2), -1000000001);
        c.due("joined(5, -1) of 10000", knocks(10000).joined(D, -1), -1000000001);
        StrokesOnWall x = new StrokesOnWall();
        x.row(D, 0, 0);
        c.due("joined(5, 0) of no bytes", x.joined(D, 0), -1000000012);
        c.due("joined(5, 2) of no bytes", x.joined(D, 2), -1000000001);
        x.row(D, 1, 9);
        c.due("joined(5, 0) of 9 shorts", x.joined(D, 0), -1000000012);
    }

    @Says("The ROW that is read, and what is taken from a SHELF, stay there;")
    static void theKnocksStay(Checks c) {
        StrokesOnWall x = knocks(9, -9, 4);
        x.joined(D, 0);
        c.dueText("SHELF 5", Checks.elements(x, D), "9 -9 4 IllegalStateException");
    }
}
