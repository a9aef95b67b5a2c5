import java.util.Arrays;

/** Promise 15: copied. */
public final class Promise15CopiedTest {
    private static final int D = 5;

    public static void main(String[] args) {
        Cases.run(Promise15CopiedTest.class);
    }

    private static StrokesOnWall knocks(int... knocks) {
        StrokesOnWall x = Checks.walled("t2;");
        Checks.row(x, D, 2, knocks);
        return x;
    }

    private static void copied(Checks c, int pairs, int... knocks) {
        c.due("copied of " + Arrays.toString(knocks), knocks(knocks).copied(D), pairs);
    }

    private static void notAsTold(Checks c, int... knocks) {
        c.refused("copied of " + Arrays.toString(knocks), () -> knocks(knocks), x -> x.copied(D), -13);
    }

    @Says("COPIED: pairs that think alike; how many.")
    static void fromNoPairToAll(Checks c) {
        copied(c, 0, 1);
        copied(c, 0, 1, -1);
        copied(c, 1, 1, 1);
        copied(c, 3, 1, 1, 1);
        copied(c, 2, 1, 2, 2, 1);
        copied(c, 1, 3, 1, 2, 3);
        copied(c, 0, 1, 2, 3, 4, 5, 6, 7, 8);
        copied(c, 28, 4, 4, 4, 4, 4, 4, 4, 4);
    }

    @Says({"what each of several (1 .. 8) thinks", "(a number or a size that isn't as told, too)"})
    static void knocksAre1To8(Checks c) {
        copied(c, 0, 9999);
        copied(c, 1, -9999, 2, 3, 4, 5, 6, 7, -9999);
        notAsTold(c);
        notAsTold(c, 1, 2, 3, 4, 5, 6, 7, 8, 9);
    }

    @Says("a number not in -9999 .. 9999).")
    static void numbersAreIn9999(Checks c) {
        copied(c, 1, 9999, 9999);
        copied(c, 1, -9999, -9999);
        notAsTold(c, 10000, 10000);
        notAsTold(c, -10000, -10000);
        notAsTold(c, 1, Checks.MAX);
        notAsTold(c, 1, 2, 3, 4, 5, 6, 7, Checks.MIN);
    }

    @Says("COPIED: how many pairs. -1, -11, -12, -13 likewise.")
    static void refusals(Checks c) {
        for (int d : new int[] {-1, 8, Checks.MIN, Checks.MAX}) {
            c.refused("copied(" + d + ")", () -> knocks(1, 2), x -> x.copied(d), -1);
        }
        c.refused("copied of nothing", () -> knocks(1), x -> x.copied(4), -11);
        c.refused("copied of a DAWN", () -> Checks.dawned(1, 0, 1), x -> x.copied(1), -12);
        for (int sort = 0; sort < 2; sort++) {
            int other = sort;
            c.refused("copied of SORT " + sort, () -> {
                StrokesOnWall x = new StrokesOnWall();
                Checks.row(x, D, other, 1, 1);
                return x;
            }, x -> x.copied(D), -12);
        }
        for (int d : new int[] {0, 7}) {
            StrokesOnWall x = new StrokesOnWall();
            x.row(d, 2, 8);
            c.due("copied(" + d + ")", x.copied(d), 28);
        }
    }

    @Says({"Answers of several refusals are the first one as they are told at the call",
        "COPIED: how many pairs. -1, -11, -12, -13 likewise."})
    static void theFirstRefusalIsTold(Checks c) {
        StrokesOnWall x = new StrokesOnWall();
        x.row(D, 0, 0);
        c.due("copied of no bytes", x.copied(D), -12);
        Checks.row(x, D, 1, 10000);
        c.due("copied of the short 10000", x.copied(D), -12);
    }

    @Says("The ROW that is read, and what is taken from a SHELF, stay there;")
    static void theKnocksStay(Checks c) {
        StrokesOnWall x = knocks(9, -9, 9);
        x.copied(D);
        c.dueText("SHELF 5", Checks.elements(x, D), "9 -9 9 IllegalStateException");
    }
}
