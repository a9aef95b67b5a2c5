/** Promise 5: comes. */
public final class Promise05ComesTest {
    public static void main(String[] args) {
        Cases.run(Promise05ComesTest.class);
    }

    /** A full wall; SHELF 3 holds a DAWN, 4 a ROW, 5 nothing. */
    private static StrokesOnWall full() {
        StrokesOnWall x = Checks.walled("t40;");
        x.keep(3, 1, 1, 0);
        x.row(4, 0, 2);
        return x;
    }

    @Says("The DAWN on SHELF d comes: THOUGHT then.")
    static void thoughtThenIsAnswered(Checks c) {
        StrokesOnWall x = new StrokesOnWall();
        int[][] due = {{4, 9, 9}, {0, 5, 9}, {1, 0, 10}, {2, 0, 10}, {3, 0, 12}, {5, 3, 9}, {6, 4, 10},
            {7, 0, 15}, {5, 9, 6}, {5, 9, 0}};
        for (int[] dawn : due) {
            x.keep(7, 1, dawn[0], dawn[1]);
            c.due("comes(7) of " + dawn[0] + dawn[1], x.comes(7), dawn[2]);
        }
        c.due("count(0)", x.count(0), due.length);
    }

    @Says("DAWNS 0 .. 39 as they come")
    static void fortyComeAndNoMore(Checks c) {
        StrokesOnWall x = new StrokesOnWall();
        x.keep(0, 1, 1, 0);
        for (int k = 0; k < 40; k++) {
            c.due("comes(0), DAWN " + k, x.comes(0), k + 1);
        }
        c.due("comes(0), DAWN 40", x.comes(0), -2);
        c.due("count(0)", x.count(0), 40);
        x.back();
        c.due("comes(0) with room again", x.comes(0), 40);
        c.refused("comes(3) of a full wall", Promise05ComesTest::full, y -> y.comes(3), -2);
    }

    @Says({"-1, -11, -12 (a ROW), -2.", "A refused call changes nothing."})
    static void refusals(Checks c) {
        for (int d : new int[] {-1, 8, Checks.MIN, Checks.MAX}) {
            c.refused("comes(" + d + ")", () -> Checks.dawned(1, 0, 1), x -> x.comes(d), -1);
        }
        c.refused("comes(2) of nothing", () -> Checks.dawned(1, 0, 1), x -> x.comes(2), -11);
        for (int sort = 0; sort < 3; sort++) {
            int ofSort = sort;
            c.refused("comes(2) of SORT " + sort, () -> {
                StrokesOnWall x = Checks.dawned(1, 0, 1);
                x.row(2, ofSort, 1);
                return x;
            }, x -> x.comes(2), -12);
        }
    }

    @Says({"Answers of several refusals are the first one as they are told at the call", "-1, -11, -12 (a ROW), -2.",
        "A refused call changes nothing."})
    static void noRoomIsToldLast(Checks c) {
        c.refused("comes(8) of a full wall", Promise05ComesTest::full, x -> x.comes(8), -1);
        c.refused("comes(5) of a full wall", Promise05ComesTest::full, x -> x.comes(5), -11);
        c.refused("comes(4) of a full wall", Promise05ComesTest::full, x -> x.comes(4), -12);
    }

    @Says("what is taken from a SHELF, stay there;")
    static void theDawnStaysOnItsShelf(Checks c) {
        StrokesOnWall x = new StrokesOnWall();
        x.keep(0, 1, 4, 6);
        c.due("comes(0)", x.comes(0), 6);
        c.due("ease(0)", x.ease(0), 6);
        c.due("comes(0) again", x.comes(0), 12);
    }

    @Says("The DAWN on SHELF d comes: THOUGHT then.")
    static void whatCameIsNoMoreTheShelfs(Checks c) {
        StrokesOnWall x = Checks.dawned(6, 4, 2);
        x.keep(1, 1, 2, 7);
        c.due("KIND", x.dawn(0, 0), 6);
        c.due("FIGURE", x.dawn(1, 1), 4);
        x.keep(1, 0, 0, 0);
        c.due("KIND", x.dawn(1, 0), 6);
    }
}
