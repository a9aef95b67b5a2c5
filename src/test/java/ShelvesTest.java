/** Promises 26 to 35: image, restore, count, keep, row, put, element, copy, ease, toss. */
public final class ShelvesTest {
    private static final Checks C = new Checks();

    public static void main(String[] args) {
        images();
        counts();
        keeps();
        rows();
        puts();
        elements();
        copies();
        eases();
        tosses();
        C.end();
    }

    private static void images() {
        StrokesOnWall x = new StrokesOnWall();
        C.due("restore() of none", x.restore(), -3);
        C.due("image() of an empty wall", x.image(), 0);
        Checks.wall(x, "t4;d65;k3;");
        C.due("restore() of an empty wall", x.restore(), 0);
        C.due("dawns", x.count(0), 0);
        C.due("week", x.count(3), 0);
        Checks.wall(x, "t4;d65;k3;d43;");
        C.due("image()", x.image(), 6);
        x.row(5, 2, 1);
        x.put(5, 0, 77);
        Checks.wall(x, "b;b;b;b;b;b;d59;d20;k5;");
        C.due("kind behind the image", x.dawn(0, 0), 5);
        C.due("restore()", x.restore(), 6);
        C.due("kind", x.dawn(4, 0), 6);
        C.due("figure", x.dawn(4, 1), 5);
        C.due("kind of the first", x.dawn(0, 0), 1);
        C.due("thought", x.count(1), 8);
        C.due("thought behind 3", x.dawn(3, 2), 4);
        C.due("week", x.count(3), 3);
        C.due("shelves stay", x.element(5, 0), 77);
        x.put(5, 0, 78);
        Checks.wall(x, "t9;");
        C.due("restore() again", x.restore(), 6);
        C.due("dawns", x.count(0), 6);
        C.due("shelves stay as they are", x.element(5, 0), 78);
        x.back();
        C.due("restore() behind back()", x.restore(), 6);
        x.week(1);
        C.due("image() anew", x.image(), 6);
        x.week(2);
        x.restore();
        C.due("week of the newer image", x.count(3), 1);
    }

    private static void counts() {
        StrokesOnWall x = Checks.walled("d20;d55;d60;d30;d69;d00;d47;d71;k2;d29;");
        C.due("count(0)", x.count(0), 9);
        C.due("count(1)", x.count(1), 15);
        C.due("count(2)", x.count(2), 2);
        C.due("count(3)", x.count(3), 2);
        C.due("count(4)", x.count(4), 3);
        C.due("count(5)", x.count(5), -1);
        C.due("count(-1)", x.count(-1), -1);
    }

    private static void keeps() {
        StrokesOnWall x = new StrokesOnWall();
        C.due("keep(0, 1, 7, 9)", x.keep(0, 1, 7, 9), 0);
        C.due("ease(0)", x.ease(0), 9);
        C.due("keep(8, ..)", x.keep(8, 1, 0, 0), -1);
        C.due("keep(-1, ..)", x.keep(-1, 1, 0, 0), -1);
        C.due("keep(-1, 0, ..)", x.keep(-1, 0, 0, 0), -1);
        C.due("keep(0, 2, ..)", x.keep(0, 2, 0, 0), -1);
        C.due("keep(0, -1, ..)", x.keep(0, -1, 0, 0), -1);
        C.due("keep(0, 1, 8, 0)", x.keep(0, 1, 8, 0), -1);
        C.due("keep(0, 1, -1, 0)", x.keep(0, 1, -1, 0), -1);
        C.due("keep(0, 1, 0, 10)", x.keep(0, 1, 0, 10), -1);
        C.due("keep(0, 1, 0, -1)", x.keep(0, 1, 0, -1), -1);
        C.due("refused ones change nothing", x.ease(0), 9);
        C.due("keep(0, 0, 99, -99)", x.keep(0, 0, 99, -99), 0);
        C.due("ease(0) of nothing", x.ease(0), -11);
        x.row(0, 0, 3);
        C.due("keep(0, 1, 0, 0) over a row", x.keep(0, 1, 0, 0), 0);
        C.due("put(0, 0, 0) to a dawn", x.put(0, 0, 0), -12);
        C.dueText("element(0, 0) of a dawn", Checks.element(x, 0, 0), Checks.ILLEGAL_STATE);
        x.row(0, 0, 3);
        C.due("keep(0, 0, ..) over a row", x.keep(0, 0, 0, 0), 0);
        C.due("put(0, 0, 0) to nothing", x.put(0, 0, 0), -11);
    }

    private static void rows() {
        StrokesOnWall x = new StrokesOnWall();
        C.due("row(0, 0, 0)", x.row(0, 0, 0), 0);
        C.due("row(7, 2, 100)", x.row(7, 2, 100), 0);
        C.dueText("element(7, 99)", Checks.element(x, 7, 99), "0");
        C.due("row(0, 0, 101)", x.row(0, 0, 101), -1);
        C.due("row(0, 3, 1)", x.row(0, 3, 1), -1);
        C.due("row(0, -1, 1)", x.row(0, -1, 1), -1);
        C.due("row(8, 0, 1)", x.row(8, 0, 1), -1);
        C.due("row(-1, 0, 1)", x.row(-1, 0, 1), -1);
        C.due("row(8, 0, -1)", x.row(8, 0, -1), -1);
        C.due("row(0, 3, -1)", x.row(0, 3, -1), -1);
        C.due("row(0, 0, -1)", x.row(0, 0, -1), -14);
        C.due("row(0, 0, min)", x.row(0, 0, Integer.MIN_VALUE), -14);
        C.dueText("refused ones change nothing", Checks.element(x, 0, 0), Checks.ILLEGAL_STATE);
        Checks.row(x, 3, 2, 1, 2, 3);
        x.row(3, 2, 3);
        for (int i = 0; i < 3; i++) {
            C.dueText("a new row's elements", Checks.element(x, 3, i), "0");
        }
        Checks.row(x, 3, 2, 1, 2, 3);
        x.row(3, 2, 1);
        x.row(3, 2, 3);
        C.dueText("a longer row's elements", Checks.element(x, 3, 2), "0");
        x.keep(3, 1, 0, 0);
        x.row(3, 1, 1);
        C.due("ease(3) of a row over a dawn", x.ease(3), -12);
    }

    private static void puts() {
        StrokesOnWall x = new StrokesOnWall();
        int[] values = {0, 127, 128, -128, -129, 255, 256, 32767, 32768, -32768, -32769, 65535, 65536,
            Integer.MAX_VALUE, Integer.MIN_VALUE, -1};
        for (int sort = 0; sort < 3; sort++) {
            x.row(sort, sort, 2);
            for (int v : values) {
                C.due("put of " + v, x.put(sort, 1, v), 0);
                long want = sort == 0 ? (byte) v : sort == 1 ? (short) v : v;
                C.due("sort " + sort + " keeps of " + v, x.element(sort, 1), want);
            }
            C.due("the other element", x.element(sort, 0), 0);
            C.due("put to place 2", x.put(sort, 2, 1), -13);
            C.due("put to place -1", x.put(sort, -1, 1), -13);
            C.due("put to place max", x.put(sort, Integer.MAX_VALUE, 1), -13);
        }
        C.due("put(8, 0, 1)", x.put(8, 0, 1), -1);
        C.due("put(-1, 0, 1)", x.put(-1, 0, 1), -1);
        C.due("put(7, -1, 1)", x.put(7, -1, 1), -11);
        x.keep(7, 1, 0, 0);
        C.due("put(7, -1, 1) to a dawn", x.put(7, -1, 1), -12);
    }

    private static void elements() {
        StrokesOnWall x = new StrokesOnWall();
        Checks.row(x, 1, 1, 5, -6);
        C.dueText("element(1, 0)", Checks.element(x, 1, 0), "5");
        C.dueText("element(1, 1)", Checks.element(x, 1, 1), "-6");
        C.dueText("element(1, 2)", Checks.element(x, 1, 2), Checks.ILLEGAL_STATE);
        C.dueText("element(1, -1)", Checks.element(x, 1, -1), Checks.ILLEGAL_STATE);
        C.dueText("element(0, 0)", Checks.element(x, 0, 0), Checks.ILLEGAL_STATE);
        C.dueText("element(8, 0)", Checks.element(x, 8, 0), Checks.ILLEGAL_ARGUMENT);
        C.dueText("element(-1, 9)", Checks.element(x, -1, 9), Checks.ILLEGAL_ARGUMENT);
    }

    private static void copies() {
        StrokesOnWall x = new StrokesOnWall();
        Checks.row(x, 0, 0, 1, 2, 3, 4, 5);
        x.row(1, 0, 3);
        C.due("copy(0, 1, 1, 0, 3)", x.copy(0, 1, 1, 0, 3), 3);
        C.due("copied", x.element(1, 0) * 100 + x.element(1, 1) * 10 + x.element(1, 2), 234);
        C.due("what is taken stays", x.element(0, 1), 2);
        C.due("copy to the same, up", x.copy(0, 0, 0, 1, 4), 4);
        C.due("moved up", x.element(0, 1) * 1000 + x.element(0, 2) * 100 + x.element(0, 3) * 10 + x.element(0, 4), 1234);
        C.due("copy to the same, down", x.copy(0, 2, 0, 0, 3), 3);
        C.due("moved down", x.element(0, 0) * 100 + x.element(0, 1) * 10 + x.element(0, 2), 234);
        C.due("none at both ends", x.copy(0, 5, 1, 3, 0), 0);
        C.due("none behind the end", x.copy(0, 6, 1, 3, 0), -13);
        C.due("none behind the other end", x.copy(0, 5, 1, 4, 0), -13);
        C.due("below 0 many", x.copy(0, 0, 1, 0, -1), -13);
        C.due("from below 0", x.copy(0, -1, 1, 0, 1), -13);
        C.due("to below 0", x.copy(0, 0, 1, -1, 1), -13);
        C.due("too many from", x.copy(1, 0, 0, 0, 4), -13);
        C.due("too many to", x.copy(0, 0, 1, 0, 4), -13);
        C.due("one too many from a later place", x.copy(0, 3, 1, 0, 3), -13);
        C.due("one too many to a later place", x.copy(0, 0, 1, 2, 2), -13);
        C.due("to the very end", x.copy(0, 3, 1, 1, 2), 2);
        C.due("far too many", x.copy(0, 1, 1, 1, Integer.MAX_VALUE), -13);
        C.due("places that wrap", x.copy(0, Integer.MAX_VALUE, 1, 0, 1), -13);
        C.due("copy(8, ..)", x.copy(8, 0, 1, 0, 1), -1);
        C.due("copy(.., 8, ..)", x.copy(2, 0, 8, 0, 1), -1);
        C.due("copy(-1, ..)", x.copy(-1, 0, 2, 0, -1), -1);
        C.due("copy from nothing", x.copy(2, 0, 1, 0, 1), -11);
        C.due("copy to nothing", x.copy(0, 0, 2, 0, -1), -11);
        x.keep(3, 1, 0, 0);
        C.due("a dawn to nothing", x.copy(3, 0, 2, 0, 1), -11);
        C.due("a dawn to a row", x.copy(3, 0, 1, 0, -1), -12);
        C.due("a row to a dawn", x.copy(0, 0, 3, 0, -1), -12);
        C.due("a dawn to a dawn", x.copy(3, 0, 3, 0, 0), -12);
        x.row(4, 1, 5);
        C.due("bytes to shorts", x.copy(0, 0, 4, 0, -1), -12);
        x.row(5, 2, 5);
        C.due("ints to shorts", x.copy(5, 0, 4, 0, 1), -12);
        x.put(5, 4, 123456789);
        C.due("ints to ints", x.copy(5, 4, 5, 0, 1), 1);
        C.due("an int", x.element(5, 0), 123456789);
    }

    private static void eases() {
        int[] plain = {1, 3, 0, 6, 0, 0, 3, 9};
        int[] byFigure = {0, 0, 0, 0, 1, -1, 1, 0};
        StrokesOnWall x = new StrokesOnWall();
        for (int kind = 0; kind < 8; kind++) {
            for (int figure = 0; figure < 10; figure++) {
                x.keep(4, 1, kind, figure);
                C.due("ease of " + kind + figure, x.ease(4), plain[kind] + byFigure[kind] * figure);
            }
        }
        C.due("ease(8)", x.ease(8), -1);
        C.due("ease(-1)", x.ease(-1), -1);
        C.due("ease(0)", x.ease(0), -11);
        x.row(0, 2, 1);
        C.due("ease(0) of a row", x.ease(0), -12);
    }

    private static void tosses() {
        StrokesOnWall x = new StrokesOnWall();
        for (int kind = 0; kind < 8; kind++) {
            for (int figure = 0; figure < 10; figure++) {
                x.keep(4, 1, kind, figure);
                int want = figure;
                if (figure == 0 || kind == 4) {
                    want = -15;
                } else if (kind == 5) {
                    want = 100 + figure;
                } else if (kind == 7) {
                    want = 209;
                }
                C.due("toss of " + kind + figure, x.toss(4), want);
            }
        }
        C.due("toss(8)", x.toss(8), -1);
        C.due("toss(-1)", x.toss(-1), -1);
        C.due("toss(0)", x.toss(0), -11);
        x.row(0, 0, 1);
        C.due("toss(0) of a row", x.toss(0), -12);
    }
}
