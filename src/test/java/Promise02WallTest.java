/** Promise 2: wall. */
public final class Promise02WallTest {
    public static void main(String[] args) {
        Cases.run(Promise02WallTest.class);
    }

    /** The text is a WALL of so many STATEMENTS; so many DAWNS are there then. */
    private static void taken(Checks c, StrokesOnWall x, String text, int statements, int dawns) {
        c.due("wall " + text, Checks.wall(x, text), statements);
        c.due("count(0) behind " + text, x.count(0), dawns);
    }

    /** The text has the FAULT, and nothing of it comes, on a wall that the text ahead has made. */
    private static void fault(Checks c, String ahead, String text, int want) {
        c.refused("wall " + text + " on " + ahead, () -> {
            StrokesOnWall x = Checks.walled(ahead);
            x.image();
            Checks.text(x, 0, text);
            return x;
        }, x -> x.wall(0), want);
    }

    private static void fault(Checks c, String text, int want) {
        fault(c, "t2;k4;", text, want);
    }

    private static String times(int n, String statement) {
        return statement.repeat(n);
    }

    @Says("At least one STATEMENT.")
    static void anEmptyRowIsNoWall(Checks c) {
        fault(c, "", -1000);
        taken(c, new StrokesOnWall(), "t0;", 1, 0);
    }

    @Says("STATEMENTS, each with ; behind")
    static void eachStatementHasItsSignBehind(Checks c) {
        fault(c, "d10", -1003);
        fault(c, "k3", -1002);
        fault(c, "t5", -1002);
        fault(c, "t12", -1003);
        fault(c, "b", -1001);
        fault(c, "d10:", -1003);
        fault(c, "d10<", -1003);
        fault(c, "k3:", -1002);
        fault(c, "t5<", -1002);
        fault(c, "b:", -1001);
        fault(c, "d10d10;", -1003);
        fault(c, "bb;", -1001);
        fault(c, "t1;b", -1004);
        fault(c, ";", -1000);
        fault(c, "t1;;", -1003);
    }

    @Says("d, KIND, FIGURE (digits): a DAWN more;")
    static void aDawnHasTwoDigits(Checks c) {
        StrokesOnWall x = new StrokesOnWall();
        taken(c, x, "d00;", 1, 1);
        taken(c, x, "d79;", 1, 2);
        c.due("KIND of d79", x.dawn(1, 0), 7);
        c.due("FIGURE of d79", x.dawn(1, 1), 9);
        fault(c, "d;", -1001);
        fault(c, "d1;", -1002);
        fault(c, "d100;", -1003);
        fault(c, "d/0;", -1001);
        fault(c, "d:0;", -1001);
        fault(c, "d1/;", -1002);
        fault(c, "d1:;", -1002);
        fault(c, "d-1;", -1001);
        fault(c, "d 10;", -1001);
    }

    @Says("k, WEEK (a digit);")
    static void aWeekHasOneDigit(Checks c) {
        StrokesOnWall x = new StrokesOnWall();
        c.due("wall k6;", Checks.wall(x, "k6;"), 1);
        c.due("count(3)", x.count(3), 6);
        c.due("wall k0;", Checks.wall(x, "k0;"), 1);
        c.due("count(3)", x.count(3), 0);
        fault(c, "k;", -1001);
        fault(c, "k/;", -1001);
        fault(c, "k:;", -1001);
        fault(c, "k10;", -1002);
        fault(c, "k00;", -1002);
    }

    @Says("t, a number (1 or 2 digits, ")
    static void aNumberHasOneOrTwoDigits(Checks c) {
        StrokesOnWall x = new StrokesOnWall();
        taken(c, x, "t9;", 1, 9);
        taken(c, x, "t10;", 1, 19);
        taken(c, x, "t19;", 1, 38);
        fault(c, "t;", -1001);
        fault(c, "t/;", -1001);
        fault(c, "t:;", -1001);
        fault(c, "t1/;", -1002);
        fault(c, "t1:;", -1002);
        fault(c, "t100;", -1003);
        fault(c, "t123;", -1003);
        fault(c, "t-1;", -1001);
    }

    @Says("no 0 ahead of another; 0, too)")
    static void aNumberHasNo0AheadButMayBe0(Checks c) {
        taken(c, new StrokesOnWall(), "t0;", 1, 0);
        taken(c, new StrokesOnWall(), "t0;t20;", 2, 20);
        fault(c, "t00;", -1002);
        fault(c, "t05;", -1002);
        fault(c, "t1;t09;", -1005);
    }

    @Says("so many TRUE DAWNS (FIGURE 0) more;")
    static void soManyTrueDawnsCome(Checks c) {
        StrokesOnWall x = new StrokesOnWall();
        taken(c, x, "d29;t1;", 2, 2);
        c.due("KIND of t", x.dawn(1, 0), 1);
        c.due("FIGURE of t", x.dawn(1, 1), 0);
        taken(c, x, "t38;", 1, 40);
        for (int k = 1; k < 40; k++) {
            c.due("KIND of " + k, x.dawn(k, 0), 1);
            c.due("FIGURE of " + k, x.dawn(k, 1), 0);
            c.due("THOUGHT behind " + k, x.dawn(k, 2), k);
        }
    }

    @Says("b: the latest DAWN is none.")
    static void theLatestDawnIsNone(Checks c) {
        StrokesOnWall x = new StrokesOnWall();
        taken(c, x, "d21;d63;b;", 3, 1);
        c.due("KIND of what is left", x.dawn(0, 0), 2);
        taken(c, x, "b;", 1, 0);
        taken(c, x, "t40;b;", 2, 39);
    }

    @Says("FAULT: kind 1 the place of the first byte with which no WALL can go on")
    static void kind1IsThePlaceOfTheByte(Checks c) {
        fault(c, "x", -1000);
        fault(c, "D10;", -1000);
        fault(c, " d10;", -1000);
        fault(c, "t1;x", -1003);
        fault(c, "t1; b;", -1003);
        fault(c, "d10;k3;t1;b;q;", -1012);
        fault(c, "d10;" + (char) 0, -1004);
        fault(c, "d10;" + (char) 255, -1004);
        // The letter d with its highest bit, too, is another byte.
        fault(c, (char) ('d' + 128) + "10;", -1000);
        fault(c, times(33, "t0;") + "c", -1099);
    }

    @Says("(the size, if it ends too early)")
    static void aTextThatEndsTooEarlyHasItsSizeAsThePlace(Checks c) {
        fault(c, "d", -1001);
        fault(c, "d1", -1002);
        fault(c, "k", -1001);
        fault(c, "t", -1001);
        fault(c, "t1;d", -1004);
        fault(c, times(33, "t0;") + "b", -1100);
        fault(c, times(32, "t0;") + "d100", -1099);
        fault(c, times(32, "t0;") + "b;d1", -1100);
    }

    @Says("else kind 2 the place of the letter of the first STATEMENT that isn't as told")
    static void kind2IsThePlaceOfTheLetter(Checks c) {
        fault(c, "d80;", -2000);
        fault(c, "k6;k7;", -2003);
        fault(c, "t12;d99;", -2004);
        fault(c, "d10;t39;", -2004);
        fault(c, "t0;k0;d00;b;d80;", -2012);
        fault(c, "d10;", times(32, "t0;") + "b;b;", -2098);
        fault(c, times(32, "t0;") + "d80;", -2096);
    }

    @Says("(a number out of range, no room, no DAWN)")
    static void aNumberOutOfRangeIsAFaultOfKind2(Checks c) {
        taken(c, new StrokesOnWall(), "d70;k6;", 2, 1);
        fault(c, "d80;", -2000);
        fault(c, "d90;", -2000);
        fault(c, "d89;", -2000);
        fault(c, "k7;", -2000);
        fault(c, "k8;", -2000);
        fault(c, "k9;", -2000);
        fault(c, "", "t41;", -2000);
        fault(c, "", "t99;", -2000);
    }

    @Says("(a number out of range, no room, no DAWN)")
    static void noRoomIsAFaultOfKind2(Checks c) {
        taken(c, new StrokesOnWall(), "t40;", 1, 40);
        taken(c, Checks.walled("t39;"), "d10;", 1, 40);
        taken(c, Checks.walled("t39;"), "t1;", 1, 40);
        taken(c, Checks.walled("t40;"), "t0;", 1, 40);
        taken(c, Checks.walled("t40;"), "k5;", 1, 40);
        fault(c, "t40;", "d10;", -2000);
        fault(c, "t40;", "t1;", -2000);
        fault(c, "t39;", "t2;", -2000);
        fault(c, "t38;", "d10;d10;d10;", -2008);
        fault(c, "t2;", "t39;", -2000);
    }

    @Says("(a number out of range, no room, no DAWN)")
    static void noDawnIsAFaultOfKind2(Checks c) {
        taken(c, Checks.walled("t2;"), "b;b;", 2, 0);
        fault(c, "t2;", "b;b;b;", -2004);
        fault(c, "t0;", "b;", -2000);
        fault(c, "t0;", "b;t1;", -2000);
        fault(c, "t0;", "t0;b;", -2003);
    }

    @Says("-1000 times the kind less the place")
    static void theFaultIsTheKindAndThePlace(Checks c) {
        fault(c, "q", -1000);
        fault(c, "t1;k3;bq", -1007);
        fault(c, "k9;", -2000);
        fault(c, "t1;k3;b;k9;", -2008);
    }

    @Says("Without FAULT all of it comes (to what there is)")
    static void allComesToWhatThereIs(Checks c) {
        StrokesOnWall x = Checks.walled("d47;k2;");
        taken(c, x, "d10;", 1, 2);
        c.due("KIND of the first", x.dawn(0, 0), 4);
        c.due("count(1)", x.count(1), 8);
        c.due("count(3), no k", x.count(3), 2);
        taken(c, x, "b;k5;d64;", 3, 2);
        c.due("KIND of the second", x.dawn(1, 0), 6);
        c.due("count(3)", x.count(3), 5);
    }

    @Says("Without FAULT all of it comes (to what there is)")
    static void whatThereIsMayBeMadeByOtherCalls(Checks c) {
        StrokesOnWall x = Checks.walled("t3;k1;");
        x.image();
        Checks.come(x, 4, 9, 1);
        x.week(4);
        taken(c, x, "d10;", 1, 5);
        c.due("count(1) behind comes", x.count(1), 13);
        c.due("count(3) behind week", x.count(3), 4);
        x.back();
        x.back();
        taken(c, x, "d20;", 1, 4);
        c.due("count(1) behind back", x.count(1), 3);
        x.restore();
        taken(c, x, "d10;", 1, 4);
        c.due("count(1) behind restore", x.count(1), 4);
        c.due("count(3) behind restore", x.count(3), 1);
    }

    @Says("with one nothing.")
    static void nothingOfAFaultComesWithTheNextText(Checks c) {
        StrokesOnWall x = Checks.walled("t3;k1;");
        c.due("wall with a FAULT", Checks.wall(x, "d49;k5;b;b;d90;"), -2011);
        taken(c, x, "d10;", 1, 4);
        c.due("count(1)", x.count(1), 4);
        c.due("count(3)", x.count(3), 1);
    }

    @Says({"with one nothing.", "A refused call changes nothing."})
    static void nothingComesWithAFault(Checks c) {
        fault(c, "d49;d63;k1;t3;b;q", -1016);
        fault(c, "d49;d63;k1;t3;b;k7;", -2016);
        fault(c, "b;b;d59;k1;d90;", -2011);
        fault(c, "t38;b;d10;d10;", -2010);
    }

    @Says("kind 1 (of any place) goes ahead of kind 2;")
    static void kind1GoesAheadOfKind2(Checks c) {
        fault(c, "d80;x", -1004);
        fault(c, "k7;t1", -1005);
        fault(c, "t99;;", -1004);
        fault(c, "b;b;b;b;t05;", -1010);
        fault(c, "d8", -1002);
        fault(c, "k9:", -1002);
        fault(c, "k7;" + times(32, "t0;") + "q", -1099);
    }

    @Says("STATEMENTS are tried one behind the other, each on what those ahead of it made")
    static void eachIsTriedOnWhatThoseAheadMade(Checks c) {
        taken(c, Checks.walled("t40;"), "b;d10;", 2, 40);
        fault(c, "t40;", "d10;b;", -2000);
        taken(c, new StrokesOnWall(), "d10;b;", 2, 0);
        fault(c, "t0;", "b;d10;", -2000);
        taken(c, new StrokesOnWall(), "t40;b;b;t2;", 4, 40);
        fault(c, "t0;", "t40;b;t2;", -2006);
        StrokesOnWall x = new StrokesOnWall();
        taken(c, x, "d43;b;d10;k2;k4;", 5, 1);
        c.due("count(1)", x.count(1), 1);
        c.due("count(3)", x.count(3), 4);
    }

    @Says("the first that can't be done so is told")
    static void theFirstThatCantBeDoneIsTold(Checks c) {
        fault(c, "t1;d80;k7;t99;", -2003);
        fault(c, "k7;d80;", -2000);
        fault(c, "t0;", "t1;b;b;b;d90;", -2005);
    }

    @Says("The ROW that is read, and what is taken from a SHELF, stay there;")
    static void theTextStays(Checks c) {
        StrokesOnWall x = Checks.walled("t3;b;");
        c.dueText("SHELF 0", Checks.elements(x, 0), "116 51 59 98 59 IllegalStateException");
        c.due("wall(0) again", x.wall(0), 2);
        c.due("count(0)", x.count(0), 4);
    }

    @Says("The text in SHELF d: how many STATEMENTS; the FAULT.")
    static void aFullRowIsRead(Checks c) {
        // 99 and 100 bytes: the most STATEMENTS are those of one letter.
        taken(c, Checks.walled("t40;"), times(40, "b;") + "t9;" + times(8, "b;"), 49, 1);
        taken(c, new StrokesOnWall(), times(25, "d10;"), 25, 25);
        fault(c, "t0;", "t40;" + times(41, "b;"), -2084);
    }

    @Says({"-1, -11, -12 (no ROW of bytes).", "A refused call changes nothing."})
    static void refusals(Checks c) {
        for (int d : new int[] {-1, 8, Checks.MIN, Checks.MAX}) {
            c.refused("wall(" + d + ")", () -> Checks.walled("t1;"), x -> x.wall(d), -1);
        }
        for (int d : new int[] {0, 7}) {
            c.refused("wall(" + d + ") of nothing", StrokesOnWall::new, x -> x.wall(d), -11);
            StrokesOnWall x = new StrokesOnWall();
            Checks.text(x, d, "t1;");
            c.due("wall(" + d + ")", x.wall(d), 1);
        }
        c.refused("wall(1) of a DAWN", () -> Checks.dawned(1, 0, 1), x -> x.wall(1), -12);
        for (int sort = 1; sort <= 2; sort++) {
            int other = sort;
            c.refused("wall(3) of SORT " + sort, () -> {
                StrokesOnWall x = new StrokesOnWall();
                Checks.row(x, 3, other, 't', '1', ';');
                return x;
            }, x -> x.wall(3), -12);
        }
    }

    @Says({"Answers of several refusals are the first one as they are told at the call", "-12 (no ROW of bytes)"})
    static void anotherSortGoesAheadOfAnyFault(Checks c) {
        StrokesOnWall x = new StrokesOnWall();
        x.row(3, 2, 0);
        c.due("wall(3) of no ints", x.wall(3), -12);
        Checks.row(x, 3, 1, 'k', '9', ';');
        c.due("wall(3) of shorts", x.wall(3), -12);
    }

    @Says("what is put in keeps its lowest bits")
    static void bytesAreReadAsTheyWereKept(Checks c) {
        StrokesOnWall x = new StrokesOnWall();
        Checks.row(x, 0, 0, 't' + 256, '7' - 256, ';' + 1024);
        c.due("wall(0)", x.wall(0), 1);
        c.due("count(0)", x.count(0), 7);
    }
}
