/** Promise 3: dawn. */
public final class Promise03DawnTest {
    public static void main(String[] args) {
        Cases.run(Promise03DawnTest.class);
    }

    private static void thoughts(Checks c, String text, int... due) {
        StrokesOnWall x = Checks.walled(text);
        c.due("count(0) of " + text, x.count(0), due.length);
        for (int k = 0; k < due.length; k++) {
            c.due("dawn(" + k + ", 2) of " + text, x.dawn(k, 2), due[k]);
        }
    }

    @Says("DAWNS 0 .. 39 as they come")
    static void dawnsAre0To39(Checks c) {
        StrokesOnWall x = Checks.walled("d03;t38;d24;");
        c.due("dawn(0, 1)", x.dawn(0, 1), 3);
        c.due("dawn(39, 0)", x.dawn(39, 0), 2);
        c.due("dawn(39, 1)", x.dawn(39, 1), 4);
        c.due("dawn(39, 2)", x.dawn(39, 2), 38);
        for (int what = 0; what < 4; what++) {
            c.due("dawn(40, " + what + ")", x.dawn(40, what), -1);
            c.due("dawn(-1, " + what + ")", x.dawn(-1, what), -1);
        }
    }

    @Says("KIND (what 0), FIGURE (1), THOUGHT behind it (2), the week day of its DAY (3). -1.")
    static void refusals(Checks c) {
        for (int what = 0; what < 4; what++) {
            c.due("dawn(0, " + what + ") of none", new StrokesOnWall().dawn(0, what), -1);
        }
        StrokesOnWall x = Checks.walled("t3;");
        for (int k : new int[] {-1, 3, 39, 40, Checks.MIN, Checks.MAX}) {
            c.due("dawn(" + k + ", 2)", x.dawn(k, 2), -1);
        }
        c.due("dawn(2, 2)", x.dawn(2, 2), 3);
        for (int what : new int[] {-1, 4, Checks.MIN, Checks.MAX}) {
            c.due("dawn(2, " + what + ")", x.dawn(2, what), -1);
        }
        c.due("dawn(3, 4)", x.dawn(3, 4), -1);
        x.back();
        c.due("dawn(2, 2) behind back()", x.dawn(2, 2), -1);
    }

    @Says("of KINDS: 0 STROKE; 1 TRUE under STROKE; 2 MISSED under STROKE; 3 DOUBLED under TRUE; "
        + "4 GUESSED under STROKE; 5 SCRAPED under MISSED; 6 BOUND under TRUE; 7 MENDED under TRUE: a FIGURE (0 .. 9).")
    static void kindsAre0To7AndFigures0To9(Checks c) {
        for (int kind = 0; kind < 8; kind++) {
            for (int figure = 0; figure < 10; figure++) {
                StrokesOnWall x = Checks.dawned(kind, figure, 1);
                c.due("dawn(0, 0)", x.dawn(0, 0), kind);
                c.due("dawn(0, 1)", x.dawn(0, 1), figure);
            }
        }
    }

    @Says("STROKE w;")
    static void behindAStroke(Checks c) {
        thoughts(c, "d09;", 0);
        thoughts(c, "d45;d00;d09;", 5, 5, 5);
    }

    @Says("TRUE one more than a STROKE's;")
    static void behindATrueOne(Checks c) {
        thoughts(c, "d19;", 1);
        thoughts(c, "d45;d10;d19;", 5, 6, 7);
    }

    @Says("MISSED as a STROKE;")
    static void behindAMissedOne(Checks c) {
        thoughts(c, "d29;", 0);
        thoughts(c, "d45;d20;d29;", 5, 5, 5);
    }

    @Says("DOUBLED one more than a TRUE's;")
    static void behindADoubledOne(Checks c) {
        thoughts(c, "d39;", 2);
        thoughts(c, "d45;d30;d39;", 5, 7, 9);
    }

    @Says("GUESSED a STROKE's and FIGURE;")
    static void behindAGuessedOne(Checks c) {
        thoughts(c, "d40;", 0);
        thoughts(c, "d41;", 1);
        thoughts(c, "d49;d40;d49;", 9, 9, 18);
        StrokesOnWall x = Checks.dawned(4, 9, 40);
        c.due("dawn(39, 2) of 40 guesses", x.dawn(39, 2), 360);
    }

    @Says("SCRAPED a MISSED's less FIGURE, 0 at least;")
    static void behindAScrapedOneIs0AtLeast(Checks c) {
        thoughts(c, "d45;d50;", 5, 5);
        thoughts(c, "d45;d54;", 5, 1);
        thoughts(c, "d45;d55;", 5, 0);
        thoughts(c, "d45;d56;", 5, 0);
        thoughts(c, "d59;", 0);
        thoughts(c, "d50;", 0);
        thoughts(c, "d10;d59;d10;", 1, 0, 1);
    }

    @Says("BOUND as a TRUE;")
    static void behindABoundOne(Checks c) {
        thoughts(c, "d60;", 1);
        thoughts(c, "d45;d69;d60;", 5, 6, 7);
    }

    @Says("MENDED the least number that is no less than a TRUE's and has the rest of (k and 1) by 7.")
    static void behindAMendedOneIsTheLeastNumberNoLess(Checks c) {
        // The TRUE's has the rest itself.
        thoughts(c, "d70;", 1);
        thoughts(c, "d79;", 1);
        thoughts(c, "d10;d79;", 1, 2);
        thoughts(c, "d49;d70;", 9, 16);
        thoughts(c, "d48;d70;", 8, 9);
        // One below it, and one above it.
        thoughts(c, "d00;d70;", 0, 2);
        thoughts(c, "d42;d70;", 2, 9);
        thoughts(c, "d43;d71;", 3, 9);
        thoughts(c, "d40;d42;d70;", 0, 2, 3);
        thoughts(c, "d40;d43;d70;", 0, 3, 10);
    }

    @Says("has the rest of (k and 1) by 7.")
    static void theRestComesBackTo0(Checks c) {
        thoughts(c, "t5;d70;", 1, 2, 3, 4, 5, 6);
        thoughts(c, "t6;d70;", 1, 2, 3, 4, 5, 6, 7);
        thoughts(c, "t7;d70;", 1, 2, 3, 4, 5, 6, 7, 8);
        thoughts(c, "d00;t5;d70;", 0, 1, 2, 3, 4, 5, 7);
        thoughts(c, "d30;t5;d70;", 2, 3, 4, 5, 6, 7, 14);
        thoughts(c, "d00;t6;d70;", 0, 1, 2, 3, 4, 5, 6, 8);
        StrokesOnWall none = Checks.dawned(0, 0, 39);
        Checks.come(none, 7, 0, 1);
        c.due("dawn(39, 2) behind 39 strokes", none.dawn(39, 2), 5);
        StrokesOnWall most = Checks.dawned(4, 9, 39);
        Checks.come(most, 7, 0, 1);
        c.due("dawn(39, 2) behind 39 guesses", most.dawn(39, 2), 355);
    }

    @Says("that of DAY k is (k and WEEK) modulo 7; SUNDAY is 6.")
    static void weekDaysComeBackTo0(Checks c) {
        StrokesOnWall x = Checks.walled("t40;");
        for (int week = 0; week < 7; week++) {
            x.week(week);
            for (int k = 0; k < 40; k++) {
                c.due("dawn(" + k + ", 3) of WEEK " + week, x.dawn(k, 3), (week + k) % 7);
            }
        }
        c.due("DAY 0 of WEEK 6", x.dawn(0, 3), 6);
        c.due("DAY 1 of WEEK 6", x.dawn(1, 3), 0);
        c.due("DAY 39 of WEEK 6", x.dawn(39, 3), 3);
        x.week(0);
        c.due("DAY 6 of WEEK 0", x.dawn(6, 3), 6);
        c.due("DAY 7 of WEEK 0", x.dawn(7, 3), 0);
    }
}
