/** Promise 1: a new object. */
public final class Promise01NewObjectTest {
    public static void main(String[] args) {
        Cases.run(Promise01NewObjectTest.class);
    }

    @Says("`StrokesOnWall()`: No DAWNS.")
    static void thereAreNoDawns(Checks c) {
        StrokesOnWall x = new StrokesOnWall();
        c.due("count(0)", x.count(0), 0);
        c.due("count(2)", x.count(2), 0);
        c.due("count(4)", x.count(4), 0);
        c.due("dawn(0, 0)", x.dawn(0, 0), -1);
        c.due("off(0)", x.off(0), -1000000001);
        c.due("back()", x.back(), -3);
        c.due("entry(0, 0)", x.entry(0, 0), -4);
    }

    @Says("THOUGHT (what is counted; 0 ahead of all)")
    static void nothingIsThoughtAheadOfAll(Checks c) {
        c.due("count(1)", new StrokesOnWall().count(1), 0);
    }

    @Says("WEEK (0 .. 6; 0 at first)")
    static void weekIs0AtFirst(Checks c) {
        c.due("count(3)", new StrokesOnWall().count(3), 0);
        c.due("week(6)", new StrokesOnWall().week(6), 0);
    }

    @Says("SHELVES 0 .. 7 each hold nothing (at first)")
    static void shelvesHoldNothingAtFirst(Checks c) {
        StrokesOnWall x = new StrokesOnWall();
        for (int d = 0; d < 8; d++) {
            c.due("ease(" + d + ")", x.ease(d), -11);
            c.due("judge(" + d + ")", x.judge(d), -11);
        }
        c.due("ease(8)", x.ease(8), -1);
    }

    @Says("-3: there is none.")
    static void thereIsNoImageAtFirst(Checks c) {
        c.due("restore()", new StrokesOnWall().restore(), -3);
    }

    @Says("`StrokesOnWall()`: No DAWNS.")
    static void objectsHaveNothingInCommon(Checks c) {
        StrokesOnWall one = Checks.walled("t5;k3;");
        one.image();
        StrokesOnWall other = new StrokesOnWall();
        c.due("count(0) of the other", other.count(0), 0);
        c.due("count(3) of the other", other.count(3), 0);
        c.due("ease(0) of the other", other.ease(0), -11);
        c.due("restore() of the other", other.restore(), -3);
        other.row(0, 0, 1);
        other.week(1);
        c.due("count(0) of the one", one.count(0), 5);
        c.due("count(3) of the one", one.count(3), 3);
        c.dueText("SHELF 0 of the one", Checks.element(one, 0, 0), "116");
    }

    @Says("An object is used for at most 512 calls after it has been made")
    static void the512thCallIsAnswered(Checks c) {
        StrokesOnWall x = new StrokesOnWall();
        x.keep(7, 1, 7, 9);
        for (int call = 2; call < 510; call += 2) {
            c.due("comes(7), call " + call, x.comes(7), 1);
            c.due("back(), call " + (call + 1), x.back(), 0);
        }
        c.due("comes(7), call 510", x.comes(7), 1);
        c.due("image(), call 511", x.image(), 1);
        c.due("restore(), call 512", x.restore(), 1);
    }
}
