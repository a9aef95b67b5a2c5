/** Promise 23: guard. */
public final class Promise23GuardTest {
    public static void main(String[] args) {
        Cases.run(Promise23GuardTest.class);
    }

    private static void guard(Checks c, int k, int r, int g, long above, long below) {
        StrokesOnWall x = new StrokesOnWall();
        String told = "guard(" + k + ", " + r + ", " + g + ", ";
        c.due(told + "0)", x.guard(k, r, g, 0), above);
        c.due(told + "1)", x.guard(k, r, g, 1), below);
    }

    private static void refused(Checks c, int k, int r, int g, int part) {
        String told = "guard(" + k + ", " + r + ", " + g + ", " + part + ")";
        c.refused(told, () -> Checks.walled("t1;"), x -> x.guard(k, r, g, part), -1000000001);
    }

    @Says("of k sayings (0 .. 9)")
    static void sayingsAre0To9(Checks c) {
        guard(c, 0, 0, 0, 1, 2);
        guard(c, 0, 0, 10, 1, 2);
        guard(c, 9, 9, 10, 1, 513);
        guard(c, 9, 0, 0, 1, 513);
        // 5 to the power of 9, and 9 to that.
        guard(c, 9, 9, 9, 1953125, 389373614);
        for (int k : new int[] {-1, 10, Checks.MIN, Checks.MAX}) {
            refused(c, k, 0, 5, 0);
        }
    }

    @Says("r (0 .. k) were right")
    static void theRightOnesAre0ToK(Checks c) {
        guard(c, 5, 0, 10, 1, 1);
        guard(c, 5, 5, 10, 1, 33);
        for (int r : new int[] {-1, 6, Checks.MIN, Checks.MAX}) {
            refused(c, 5, r, 5, 0);
        }
        refused(c, 0, 1, 5, 0);
        refused(c, 0, -1, 5, 0);
        refused(c, 9, 10, 5, 0);
    }

    @Says("half by g tenths (0 .. 10)")
    static void tenthsAre0To10(Checks c) {
        guard(c, 1, 1, 0, 1, 1);
        guard(c, 1, 0, 0, 1, 3);
        guard(c, 1, 1, 10, 1, 3);
        guard(c, 1, 0, 10, 1, 1);
        guard(c, 4, 2, 0, 1, 1);
        guard(c, 4, 2, 10, 1, 1);
        guard(c, 4, 2, 5, 1, 2);
        for (int g : new int[] {-1, 11, Checks.MIN, Checks.MAX}) {
            refused(c, 4, 2, g, 0);
        }
    }

    @Says("how likely he is of the first: a fraction in least terms.")
    static void theFractionIsInLeastTerms(Checks c) {
        guard(c, 2, 1, 8, 25, 41);
        guard(c, 2, 2, 8, 25, 89);
        guard(c, 3, 3, 6, 125, 341);
    }

    @Says({"GUARD, part 0 above, 1 below the line. -1000000001.",
        "where numbers that may be below 0, or longs, are answered (told at the call), 1000000000 less."})
    static void partIs0Or1(Checks c) {
        for (int part : new int[] {-1, 2, Checks.MIN, Checks.MAX}) {
            refused(c, 4, 2, 7, part);
        }
    }
}
