/** Promise 4: off. */
public final class Promise04OffTest {
    public static void main(String[] args) {
        Cases.run(Promise04OffTest.class);
    }

    @Says("OFF behind a DAWN: k and 1, less THOUGHT (may be below 0).")
    static void offMayBeBelow0(Checks c) {
        StrokesOnWall x = Checks.walled("d10;d20;d30;d31;d49;d59;");
        int[] due = {0, 1, 0, -1, -9, 1};
        for (int k = 0; k < due.length; k++) {
            c.due("off(" + k + ")", x.off(k), due[k]);
        }
    }

    @Says("OFF behind a DAWN: k and 1, less THOUGHT (may be below 0).")
    static void theLeastAndTheGreatestOff(Checks c) {
        StrokesOnWall guesses = Checks.dawned(4, 9, 40);
        c.due("off(39) of 40 guesses", guesses.off(39), -320);
        StrokesOnWall missed = Checks.dawned(2, 0, 40);
        c.due("off(39) of 40 missed ones", missed.off(39), 40);
        c.due("off(0) of missed ones", missed.off(0), 1);
    }

    @Says({"`int off(int dawn)`: OFF behind a DAWN. -1000000001.",
        "where numbers that may be below 0, or longs, are answered (told at the call), 1000000000 less."})
    static void refusals(Checks c) {
        c.due("off(0) of none", new StrokesOnWall().off(0), -1000000001);
        StrokesOnWall x = Checks.walled("t3;");
        c.due("off(2)", x.off(2), 0);
        for (int k : new int[] {-1, 3, 40, Checks.MIN, Checks.MAX}) {
            c.due("off(" + k + ")", x.off(k), -1000000001);
        }
        StrokesOnWall full = Checks.walled("t40;");
        c.due("off(39) of 40", full.off(39), 0);
        c.due("off(40) of 40", full.off(40), -1000000001);
        full.back();
        c.due("off(39) of 39", full.off(39), -1000000001);
    }
}
