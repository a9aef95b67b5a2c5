/** Promise 27: restore. */
public final class Promise27RestoreTest {
    public static void main(String[] args) {
        Cases.run(Promise27RestoreTest.class);
    }

    @Says({"THE IMAGE is RESTORED: how many DAWNS. -3: there is none.", "A refused call changes nothing."})
    static void thereIsNone(Checks c) {
        StrokesOnWall x = Checks.walled("d62;d53;k3;");
        String was = Checks.seen(x);
        c.due("restore()", x.restore(), -3);
        c.dueText("all behind it", Checks.seen(x), was);
        c.due("restore() again", x.restore(), -3);
        c.due("image()", x.image(), 2);
        c.due("restore() of one", x.restore(), 2);
    }

    @Says("RESTORED all is as it was then.")
    static void allIsAsItWasThen(Checks c) {
        StrokesOnWall x = Checks.walled("d62;d53;d47;d00;d71;d39;k3;");
        String was = Checks.seenWall(x);
        x.image();
        Checks.wall(x, "b;b;b;b;b;b;t40;k6;");
        c.due("restore() of a full wall", x.restore(), 6);
        c.dueText("all behind it", Checks.seenWall(x), was);
        c.due("dawn(6, 0)", x.dawn(6, 0), -1);
        c.due("entry(0, 0)", x.entry(0, 0), 0);
        Checks.wall(x, "b;b;b;b;b;b;");
        c.due("restore() of none", x.restore(), 6);
        c.dueText("all behind it", Checks.seenWall(x), was);
    }

    @Says("RESTORED all is as it was then.")
    static void of0To40Dawns(Checks c) {
        StrokesOnWall none = new StrokesOnWall();
        none.image();
        Checks.wall(none, "t40;k3;");
        c.due("restore() to none", none.restore(), 0);
        c.due("count(0)", none.count(0), 0);
        c.due("count(1)", none.count(1), 0);
        c.due("count(3)", none.count(3), 0);
        c.due("back()", none.back(), -3);
        StrokesOnWall full = Checks.walled("t40;k3;");
        full.image();
        Checks.wall(full, "b;k0;");
        c.due("restore() to a full wall", full.restore(), 40);
        c.due("count(1)", full.count(1), 40);
        c.due("count(3)", full.count(3), 3);
        Checks.come(full, 0, 0, 0);
        c.due("comes(1)", full.comes(1), -2);
    }

    @Says("THE IMAGE: all that there is, but SHELVES (and THE IMAGE); RESTORED")
    static void theImageStaysAndMayBeRestoredAgain(Checks c) {
        StrokesOnWall x = Checks.walled("t3;k2;");
        x.image();
        for (int time = 0; time < 3; time++) {
            Checks.wall(x, "b;d49;k6;");
            c.due("restore(), time " + time, x.restore(), 3);
            c.due("count(1)", x.count(1), 3);
            c.due("count(3)", x.count(3), 2);
        }
        c.due("restore() of the same", x.restore(), 3);
    }

    @Says("when THE IMAGE is RESTORED, SHELVES stay as they are.")
    static void shelvesStayAsTheyAre(Checks c) {
        StrokesOnWall x = Checks.walled("t3;");
        x.keep(1, 1, 4, 7);
        Checks.row(x, 2, 2, 5, -5);
        Checks.row(x, 3, 1, 8);
        x.image();
        x.keep(1, 0, 0, 0);
        x.put(2, 1, 77);
        x.keep(3, 1, 7, 1);
        x.row(4, 1, 1);
        String was = Checks.seen(x);
        x.restore();
        c.dueText("all behind restore()", Checks.seen(x), was);
        c.due("ease(1)", x.ease(1), -11);
        c.dueText("element(2, 1)", Checks.element(x, 2, 1), "77");
        c.due("ease(3)", x.ease(3), 9);
    }
}
