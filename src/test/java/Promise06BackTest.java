/** Promise 6: back. */
public final class Promise06BackTest {
    public static void main(String[] args) {
        Cases.run(Promise06BackTest.class);
    }

    @Says("The latest DAWN is none: how many are left.")
    static void howManyAreLeft(Checks c) {
        StrokesOnWall x = Checks.walled("t40;");
        for (int left = 39; left >= 0; left--) {
            c.due("back()", x.back(), left);
            c.due("count(1)", x.count(1), left);
        }
        c.due("count(0)", x.count(0), 0);
    }

    @Says({"-3: there is none.", "A refused call changes nothing."})
    static void thereIsNone(Checks c) {
        c.refused("back() of none", StrokesOnWall::new, x -> x.back(), -3);
        c.refused("back() behind the last", () -> {
            StrokesOnWall x = Checks.walled("d67;k5;");
            x.image();
            x.back();
            return x;
        }, x -> x.back(), -3);
    }

    @Says("The latest DAWN is none: how many are left.")
    static void theLatestAloneIsGone(Checks c) {
        StrokesOnWall x = Checks.walled("d62;d55;d49;d69;k3;");
        c.due("back()", x.back(), 3);
        c.due("ENTRIES", x.count(2), 1);
        c.due("THOUGHT", x.count(1), 9);
        c.due("WEEK", x.count(3), 3);
        c.due("back()", x.back(), 2);
        c.due("THOUGHT", x.count(1), 0);
        c.due("SCRAPED ones", x.count(4), 1);
        c.due("back()", x.back(), 1);
        c.due("SCRAPED ones", x.count(4), 0);
        c.due("FIGURE of the first", x.dawn(0, 1), 2);
    }

    @Says("The latest DAWN is none: how many are left.")
    static void allElseStaysWhenTheLastIsGone(Checks c) {
        StrokesOnWall x = Checks.walled("d67;k5;");
        x.image();
        Checks.row(x, 2, 2, 7, 8);
        c.due("back()", x.back(), 0);
        c.due("WEEK", x.count(3), 5);
        c.dueText("SHELF 2", Checks.elements(x, 2), "7 8 IllegalStateException");
        c.due("comes(1)", x.comes(1), -11);
        c.due("restore()", x.restore(), 1);
        c.due("FIGURE", x.dawn(0, 1), 7);
    }

    @Says("DAY k is that of DAWN k")
    static void theNextDawnTakesItsPlace(Checks c) {
        StrokesOnWall x = Checks.walled("t8;");
        x.back();
        x.back();
        Checks.come(x, 7, 3, 1);
        c.due("THOUGHT behind DAWN 6", x.dawn(6, 2), 7);
        c.due("count(0)", x.count(0), 7);
        c.due("dawn(7, 0)", x.dawn(7, 0), -1);
    }
}
