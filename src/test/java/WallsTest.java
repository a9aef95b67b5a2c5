/** Promises 1 to 8: a new object, wall, dawn, off, comes, back, week, entry. */
public final class WallsTest {
    private static final Checks C = new Checks();
    private static final long FAR = Checks.APART;

    public static void main(String[] args) {
        newObject();
        wallIsRead();
        wallFaultsOfKind1();
        wallFaultsOfKind2();
        wallRefusals();
        dawnAndThought();
        offBehindDawns();
        dawnsThatCome();
        dawnsThatGoBack();
        weekDays();
        entries();
        C.end();
    }

    private static void newObject() {
        StrokesOnWall x = new StrokesOnWall();
        for (int what = 0; what < 5; what++) {
            C.due("new count(" + what + ")", x.count(what), 0);
        }
        C.due("new dawn(0, 0)", x.dawn(0, 0), -1);
        C.due("new back()", x.back(), -3);
        C.due("new restore()", x.restore(), -3);
        for (int d = 0; d < 8; d++) {
            C.due("new judge(" + d + ")", x.judge(d), -11);
        }
        StrokesOnWall other = Checks.walled("t5;k3;");
        C.due("another object's dawns", other.count(0), 5);
        C.due("this one's dawns", x.count(0), 0);
        C.due("this one's week", x.count(3), 0);
    }

    private static void wallIsRead() {
        StrokesOnWall x = new StrokesOnWall();
        C.due("wall d19;", Checks.wall(x, "d19;"), 1);
        C.due("kind", x.dawn(0, 0), 1);
        C.due("figure", x.dawn(0, 1), 9);
        C.due("wall t0;", Checks.wall(x, "t0;"), 1);
        C.due("dawns", x.count(0), 1);
        C.due("wall t3;", Checks.wall(x, "t3;"), 1);
        C.due("dawns", x.count(0), 4);
        C.due("t's kind", x.dawn(3, 0), 1);
        C.due("t's figure", x.dawn(3, 1), 0);
        C.due("wall t12;b;k6;", Checks.wall(x, "t12;b;k6;"), 3);
        C.due("dawns", x.count(0), 15);
        C.due("week", x.count(3), 6);
        C.due("wall b; times 15", Checks.wall(x, "b;b;b;b;b;b;b;b;b;b;b;b;b;b;b;"), 15);
        C.due("dawns", x.count(0), 0);
        C.due("wall t40;t0;", Checks.wall(x, "t40;t0;"), 2);
        C.due("wall b;d75;", Checks.wall(x, "b;d75;"), 2);
        C.due("dawns", x.count(0), 40);
        C.due("latest kind", x.dawn(39, 0), 7);
        StringBuilder whole = new StringBuilder();
        for (int i = 0; i < 25; i++) {
            whole.append("d10;");
        }
        C.due("a text of 100", Checks.wall(new StrokesOnWall(), whole.toString()), 25);
        C.due("the text stays", x.element(0, 0), 'b');
    }

    private static void fault(String text, int want) {
        StrokesOnWall x = Checks.walled("t2;k4;");
        C.due("wall " + text, Checks.wall(x, text), want);
        C.due("dawns behind " + text, x.count(0), 2);
        C.due("week behind " + text, x.count(3), 4);
        C.due("thought behind " + text, x.count(1), 2);
    }

    private static void wallFaultsOfKind1() {
        fault("", -1000);
        fault("x", -1000);
        fault(";", -1000);
        fault("D10;", -1000);
        fault("d", -1001);
        fault("d1", -1002);
        fault("d10", -1003);
        fault("d;", -1001);
        fault("d1;", -1002);
        fault("d100;", -1003);
        fault("d/0;", -1001);
        fault("d0:;", -1002);
        fault("k", -1001);
        fault("k;", -1001);
        fault("k12;", -1002);
        fault("t", -1001);
        fault("t;", -1001);
        fault("t05;", -1002);
        fault("t00;", -1002);
        fault("t123;", -1003);
        fault("t12", -1003);
        fault("t-1;", -1001);
        fault("b", -1001);
        fault("b1;", -1001);
        fault("t1; t1;", -1003);
        fault("t1;;", -1003);
        fault("d10;k3;t1;b;q;", -1012);
        fault("d10;" + (char) 255, -1004);
        fault("d99;b;b;b;b;x", -1012);
        fault("k7;d90;t", -1008);
    }

    private static void wallFaultsOfKind2() {
        fault("d80;", -2000);
        fault("d90;", -2000);
        fault("k7;", -2000);
        fault("k9;", -2000);
        fault("k6;k8;", -2003);
        fault("t39;", -2000);
        fault("t38;t1;", -2004);
        fault("t38;d00;", -2004);
        fault("t99;", -2000);
        fault("b;b;b;", -2004);
        fault("t1;b;b;b;b;", -2009);
        fault("t1;d80;k7;", -2003);
        fault("t10;k7;t99;", -2004);
        C.due("t41 on none", Checks.wall(new StrokesOnWall(), "t41;"), -2000);
        C.due("t40 on none", Checks.wall(new StrokesOnWall(), "t40;"), 1);
        C.due("b on none", Checks.wall(new StrokesOnWall(), "b;t1;"), -2000);
        C.due("d8 on a full wall", Checks.wall(Checks.walled("t40;"), "d80;"), -2000);
    }

    private static void wallRefusals() {
        StrokesOnWall x = new StrokesOnWall();
        C.due("wall(-1)", x.wall(-1), -1);
        C.due("wall(8)", x.wall(8), -1);
        C.due("wall(7) of nothing", x.wall(7), -11);
        x.keep(7, 1, 1, 0);
        C.due("wall(7) of a dawn", x.wall(7), -12);
        Checks.row(x, 7, 1, 'b', ';');
        C.due("wall(7) of shorts", x.wall(7), -12);
        Checks.row(x, 7, 2, 'b', ';');
        C.due("wall(7) of ints", x.wall(7), -12);
    }

    private static void thoughts(String text, int... due) {
        StrokesOnWall x = Checks.walled(text);
        C.due("dawns of " + text, x.count(0), due.length);
        for (int k = 0; k < due.length; k++) {
            C.due("dawn(" + k + ", 2) of " + text, x.dawn(k, 2), due[k]);
        }
    }

    private static void dawnAndThought() {
        thoughts("d00;d10;d05;", 0, 1, 1);
        thoughts("d20;d10;d29;", 0, 1, 1);
        thoughts("d30;d39;", 2, 4);
        thoughts("d47;d40;d49;", 7, 7, 16);
        thoughts("d47;d53;d55;d50;", 7, 4, 0, 0);
        thoughts("d10;d51;", 1, 0);
        thoughts("d60;d69;", 1, 2);
        thoughts("d70;", 1);
        thoughts("d41;d70;", 1, 2);
        thoughts("d42;d70;", 2, 9);
        thoughts("d00;d70;", 0, 2);
        thoughts("t6;d70;", 1, 2, 3, 4, 5, 6, 7);
        thoughts("t5;d49;d79;", 1, 2, 3, 4, 5, 14, 21);
        thoughts("t5;d48;d79;d70;", 1, 2, 3, 4, 5, 13, 14, 15);
        StrokesOnWall x = Checks.walled("d00;d19;d28;d37;d46;d55;d64;d73;");
        for (int k = 0; k < 8; k++) {
            C.due("kind of " + k, x.dawn(k, 0), k);
            C.due("figure of " + k, x.dawn(k, 1), k == 0 ? 0 : 10 - k);
        }
        C.due("dawn(8, 0)", x.dawn(8, 0), -1);
        C.due("dawn(-1, 0)", x.dawn(-1, 0), -1);
        C.due("dawn(0, 4)", x.dawn(0, 4), -1);
        C.due("dawn(0, -1)", x.dawn(0, -1), -1);
        C.due("dawn(min, 0)", x.dawn(Integer.MIN_VALUE, 0), -1);
        C.due("dawn(max, 0)", x.dawn(Integer.MAX_VALUE, 0), -1);
    }

    private static void offBehindDawns() {
        StrokesOnWall x = Checks.walled("d10;d20;d30;d49;d59;");
        int[] due = {0, 1, 0, -8, 2};
        for (int k = 0; k < due.length; k++) {
            C.due("off(" + k + ")", x.off(k), due[k]);
        }
        C.due("off(5)", x.off(5), -FAR - 1);
        C.due("off(-1)", x.off(-1), -FAR - 1);
    }

    private static void dawnsThatCome() {
        StrokesOnWall x = new StrokesOnWall();
        x.keep(2, 1, 4, 6);
        C.due("comes(2)", x.comes(2), 6);
        C.due("comes(2) again", x.comes(2), 12);
        C.due("kind", x.dawn(1, 0), 4);
        C.due("figure", x.dawn(1, 1), 6);
        x.keep(2, 1, 7, 0);
        C.due("comes(2) mended", x.comes(2), 17);
        C.due("what came stays", x.dawn(0, 0), 4);
        x.keep(2, 0, 0, 0);
        C.due("comes(2) of nothing", x.comes(2), -11);
        C.due("comes(-1)", x.comes(-1), -1);
        C.due("comes(8)", x.comes(8), -1);
        x.row(2, 0, 3);
        C.due("comes(2) of a row", x.comes(2), -12);
        Checks.wall(x, "t37;");
        C.due("comes(2) of a row, no room", x.comes(2), -12);
        C.due("comes(3) of nothing, no room", x.comes(3), -11);
        x.keep(2, 1, 0, 0);
        C.due("comes(2), no room", x.comes(2), -2);
        C.due("dawns", x.count(0), 40);
        x.back();
        C.due("comes(2), room for one", x.comes(2), 53);
    }

    private static void dawnsThatGoBack() {
        StrokesOnWall x = Checks.walled("t2;d69;");
        C.due("back()", x.back(), 2);
        C.due("entries", x.count(2), 0);
        C.due("thought", x.count(1), 2);
        C.due("back()", x.back(), 1);
        C.due("back()", x.back(), 0);
        C.due("thought", x.count(1), 0);
        C.due("back() of none", x.back(), -3);
        C.due("dawns", x.count(0), 0);
    }

    private static void weekDays() {
        StrokesOnWall x = Checks.walled("t9;");
        C.due("dawn(6, 3)", x.dawn(6, 3), 6);
        C.due("dawn(7, 3)", x.dawn(7, 3), 0);
        C.due("week(6)", x.week(6), 0);
        C.due("week(5)", x.week(5), 6);
        C.due("week(7)", x.week(7), -1);
        C.due("week(-1)", x.week(-1), -1);
        C.due("week now", x.count(3), 5);
        C.due("dawn(0, 3)", x.dawn(0, 3), 5);
        C.due("dawn(2, 3)", x.dawn(2, 3), 0);
        C.due("dawn(8, 3)", x.dawn(8, 3), 6);
        C.due("week(0)", x.week(0), 5);
    }

    private static void entries() {
        StrokesOnWall x = Checks.walled("d62;d00;d60;d30;d69;");
        int[] days = {0, 2, 4};
        int[] thoughts = {1, 2, 5};
        for (int i = 0; i < 3; i++) {
            C.due("entry(" + i + ", 0)", x.entry(i, 0), days[i]);
            C.due("entry(" + i + ", 1)", x.entry(i, 1), thoughts[i]);
        }
        C.due("entry(3, 0)", x.entry(3, 0), -4);
        C.due("entry(3, 1)", x.entry(3, 1), -4);
        C.due("entry(max, 1)", x.entry(Integer.MAX_VALUE, 1), -4);
        C.due("entry(-1, 0)", x.entry(-1, 0), -1);
        C.due("entry(0, 2)", x.entry(0, 2), -1);
        C.due("entry(0, -1)", x.entry(0, -1), -1);
        C.due("entry(9, 2)", x.entry(9, 2), -1);
        C.due("entry(min, 0)", x.entry(Integer.MIN_VALUE, 0), -1);
    }
}
