/** Promise 26: image. */
public final class Promise26ImageTest {
    public static void main(String[] args) {
        Cases.run(Promise26ImageTest.class);
    }

    @Says("THE IMAGE is taken: how many DAWNS.")
    static void of0To40Dawns(Checks c) {
        StrokesOnWall x = new StrokesOnWall();
        c.due("image() of none", x.image(), 0);
        Checks.wall(x, "t1;");
        c.due("image() of one", x.image(), 1);
        Checks.wall(x, "t39;");
        c.due("image() of a full wall", x.image(), 40);
        c.due("restore()", x.restore(), 40);
    }

    @Says("THE IMAGE: all that there is, but SHELVES (and THE IMAGE);")
    static void allThatThereIs(Checks c) {
        StrokesOnWall x = Checks.walled("d62;d53;d47;k3;");
        String was = Checks.seenWall(x);
        c.due("image()", x.image(), 3);
        c.dueText("image() changes nothing", Checks.seenWall(x), was);
        Checks.wall(x, "b;b;b;t2;k5;");
        x.restore();
        c.dueText("RESTORED", Checks.seenWall(x), was);
    }

    @Says("THE IMAGE: all that there is, but SHELVES (and THE IMAGE);")
    static void itIsNotChangedByWhatComesLater(Checks c) {
        StrokesOnWall x = Checks.walled("t3;k1;");
        x.image();
        x.back();
        x.week(4);
        Checks.come(x, 4, 9, 2);
        Checks.wall(x, "d59;k2;");
        c.due("restore()", x.restore(), 3);
        c.due("count(1)", x.count(1), 3);
        c.due("count(3)", x.count(3), 1);
        c.due("dawn(2, 0)", x.dawn(2, 0), 1);
    }

    @Says("THE IMAGE is taken: how many DAWNS.")
    static void aNewImageTakesThePlaceOfTheOther(Checks c) {
        StrokesOnWall x = Checks.walled("t5;k1;");
        x.image();
        Checks.wall(x, "b;b;k2;");
        c.due("image() again", x.image(), 3);
        Checks.wall(x, "t9;k3;");
        c.due("restore()", x.restore(), 3);
        c.due("count(3)", x.count(3), 2);
    }
}
