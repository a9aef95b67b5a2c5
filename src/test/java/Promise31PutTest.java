/** Promise 31: put. */
public final class Promise31PutTest {
    public static void main(String[] args) {
        Cases.run(Promise31PutTest.class);
    }

    private static StrokesOnWall held() {
        StrokesOnWall x = Checks.walled("t2;");
        x.keep(2, 1, 7, 9);
        Checks.row(x, 3, 1, 4, 5);
        x.row(4, 2, 0);
        return x;
    }

    private static void refused(Checks c, int d, int i, int want) {
        c.refused("put(" + d + ", " + i + ", 6)", Promise31PutTest::held, x -> x.put(d, i, 6), want);
    }

    private static void kept(Checks c, int sort, int v, int want) {
        StrokesOnWall x = new StrokesOnWall();
        Checks.row(x, 3, sort, 7, 7, 7);
        c.due("put of " + v, x.put(3, 1, v), 0);
        c.dueText("SORT " + sort + " with " + v, Checks.elements(x, 3), "7 " + want + " 7 IllegalStateException");
    }

    @Says("what is put in keeps its lowest bits")
    static void bytesKeep8Bits(Checks c) {
        kept(c, 0, 127, 127);
        kept(c, 0, -128, -128);
        kept(c, 0, 128, -128);
        kept(c, 0, -129, 127);
        kept(c, 0, 255, -1);
        kept(c, 0, 256, 0);
        kept(c, 0, 65535, -1);
        kept(c, 0, Checks.MAX, -1);
        kept(c, 0, Checks.MIN, 0);
        kept(c, 0, 0, 0);
    }

    @Says("what is put in keeps its lowest bits")
    static void shortsKeep16Bits(Checks c) {
        kept(c, 1, 128, 128);
        kept(c, 1, 32767, 32767);
        kept(c, 1, -32768, -32768);
        kept(c, 1, 32768, -32768);
        kept(c, 1, -32769, 32767);
        kept(c, 1, 65535, -1);
        kept(c, 1, 65536, 0);
        kept(c, 1, Checks.MAX, -1);
        kept(c, 1, Checks.MIN, 0);
    }

    @Says("what is put in keeps its lowest bits")
    static void intsKeepAll(Checks c) {
        kept(c, 2, 32768, 32768);
        kept(c, 2, 65536, 65536);
        kept(c, 2, Checks.MAX, Checks.MAX);
        kept(c, 2, Checks.MIN, Checks.MIN);
        kept(c, 2, -1, -1);
    }

    @Says({"-13 a place that isn't there", "A refused call changes nothing."})
    static void placesAre0ToTheSizeLess1(Checks c) {
        StrokesOnWall x = held();
        c.due("put(3, 0, 8)", x.put(3, 0, 8), 0);
        c.due("put(3, 1, 9)", x.put(3, 1, 9), 0);
        c.dueText("SHELF 3", Checks.elements(x, 3), "8 9 IllegalStateException");
        for (int i : new int[] {-1, 2, 99, 100, Checks.MIN, Checks.MAX}) {
            refused(c, 3, i, -13);
        }
        refused(c, 4, 0, -13);
        refused(c, 4, -1, -13);
    }

    @Says("A ROW has a SORT (0 bytes, 1 shorts, 2 ints) and 0 .. 100 elements")
    static void theHundredthPlace(Checks c) {
        StrokesOnWall x = new StrokesOnWall();
        x.row(7, 2, 100);
        c.due("put(7, 99, 5)", x.put(7, 99, 5), 0);
        c.due("put(7, 100, 5)", x.put(7, 100, 5), -13);
        c.dueText("element(7, 99)", Checks.element(x, 7, 99), "5");
        // What was put to a place behind the end of a lesser ROW isn't there.
        x.row(7, 2, 99);
        c.due("put(7, 99, 5)", x.put(7, 99, 5), -13);
    }

    @Says({"Element i of the ROW becomes v: 0. -1, -11, -12, -13.", "A refused call changes nothing."})
    static void refusals(Checks c) {
        for (int d : new int[] {-1, 8, Checks.MIN, Checks.MAX}) {
            refused(c, d, 0, -1);
        }
        refused(c, 5, 0, -11);
        refused(c, 2, 0, -12);
        for (int d : new int[] {0, 7}) {
            StrokesOnWall x = new StrokesOnWall();
            x.row(d, 0, 1);
            c.due("put(" + d + ", 0, 1)", x.put(d, 0, 1), 0);
        }
    }

    @Says({"Answers of several refusals are the first one as they are told at the call", "-1, -11, -12, -13."})
    static void theFirstRefusalIsTold(Checks c) {
        refused(c, 8, -1, -1);
        refused(c, -1, 100, -1);
        refused(c, 5, -1, -11);
        refused(c, 5, 100, -11);
        refused(c, 2, -1, -12);
        refused(c, 2, 100, -12);
    }
}
