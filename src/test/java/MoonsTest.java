/** Promises 19 to 25: moon, dates, star, wakings, guard, diary, judge. */
public final class MoonsTest {
    private static final Checks C = new Checks();
    private static final long FAR = Checks.APART;
    private static final int D = 6;

    public static void main(String[] args) {
        moons();
        dates();
        stars();
        wakings();
        guards();
        diaries();
        diaryRefusals();
        judgements();
        C.end();
    }

    private static void moons() {
        StrokesOnWall x = new StrokesOnWall();
        int moon = 7;
        for (int day = 0; day <= 364; day++) {
            C.due("moon(" + day + ")", x.moon(day), moon);
            moon = (moon + 11) % 30;
        }
        C.due("moon(-1)", x.moon(-1), -1);
        C.due("moon(365)", x.moon(365), -1);
        C.due("moon(min)", x.moon(Integer.MIN_VALUE), -1);
    }

    /** The shorter way round, gone step by step. */
    private static boolean near(int a, int b, int e) {
        for (int step = 0; step <= e; step++) {
            if ((a + step) % 30 == b || (b + step) % 30 == a) {
                return true;
            }
        }
        return false;
    }

    private static void datesAsDue(StrokesOnWall x, int from, int to, int moon, int e) {
        int many = 0;
        int first = -4;
        for (int day = to; day >= from; day--) {
            if (near((day * 11 + 7) % 30, moon, e)) {
                many++;
                first = day;
            }
        }
        String told = " " + from + " " + to + " " + moon + " " + e;
        C.due("dates, how many" + told, x.dates(from, to, moon, e, 0), many);
        C.due("dates, the first" + told, x.dates(from, to, moon, e, 1), first);
    }

    private static void dates() {
        int[][] spans = {{0, 364}, {0, 0}, {364, 364}, {100, 120}, {200, 199}, {364, 0}, {17, 29}};
        for (int[] span : spans) {
            for (int e = 0; e <= 14; e++) {
                StrokesOnWall x = new StrokesOnWall();
                for (int moon = 0; moon < 30; moon++) {
                    datesAsDue(x, span[0], span[1], moon, e);
                }
            }
        }
        StrokesOnWall x = new StrokesOnWall();
        C.due("all but the moon over there", x.dates(0, 29, 0, 14, 0), 29);
        int[][] wrong = {{-1, 5, 5, 5, 0}, {365, 5, 5, 5, 0}, {5, -1, 5, 5, 0}, {5, 365, 5, 5, 0}, {5, 9, -1, 5, 0},
            {5, 9, 30, 5, 0}, {5, 9, 5, -1, 0}, {5, 9, 5, 15, 0}, {5, 9, 5, 5, -1}, {5, 9, 5, 5, 2}, {9, 5, 30, 5, 1},
            {9, Integer.MAX_VALUE, 5, 5, 0}};
        for (int[] w : wrong) {
            C.due("dates refused", x.dates(w[0], w[1], w[2], w[3], w[4]), -1);
        }
    }

    private static void starAsDue(StrokesOnWall x, int minute, int e) {
        int many = 0;
        int first = -4;
        for (int day = 364; day >= 0; day--) {
            int at = 1439 - 4 * day < 0 ? 2879 - 4 * day : 1439 - 4 * day;
            if (at - minute <= e && minute - at <= e) {
                many++;
                first = day;
            }
        }
        C.due("star, how many " + minute + " " + e, x.star(minute, e, 0), many);
        C.due("star, the first " + minute + " " + e, x.star(minute, e, 1), first);
    }

    private static void stars() {
        int[] minutes = {0, 1, 2, 3, 4, 50, 99, 100, 719, 1340, 1419, 1420, 1422, 1423, 1424, 1430, 1438, 1439};
        int[] slips = {0, 1, 2, 3, 4, 5, 98, 99};
        StrokesOnWall x = new StrokesOnWall();
        for (int minute : minutes) {
            for (int e : slips) {
                starAsDue(x, minute, e);
            }
        }
        C.due("star on no day", x.star(0, 2, 0), 0);
        C.due("star on no day, the first", x.star(0, 2, 1), -4);
        C.due("star on the latest day of the round", x.star(3, 0, 1), 359);
        int[][] wrong = {{-1, 5, 0}, {1440, 5, 0}, {9, -1, 0}, {9, 100, 0}, {9, 5, -1}, {9, 5, 2},
            {Integer.MIN_VALUE, 5, 0}};
        for (int[] w : wrong) {
            C.due("star refused", x.star(w[0], w[1], w[2]), -1);
        }
    }

    private static void wakings() {
        StrokesOnWall x = new StrokesOnWall();
        int[][] due = {{0, 1, 0, 0}, {23, 1, 0, 23}, {24, 1, 1, 0}, {25, 1, 1, 1}, {999, 99, 4120, 21}, {7, 10, 2, 22},
            {1, 99, 4, 3}};
        for (int[] w : due) {
            C.due("wakings, days " + w[0] + " " + w[1], x.wakings(w[0], w[1], 0), w[2]);
            C.due("wakings, hours " + w[0] + " " + w[1], x.wakings(w[0], w[1], 1), w[3]);
        }
        int[][] wrong = {{-1, 5, 0}, {1000, 5, 0}, {5, 0, 0}, {5, 100, 0}, {5, -1, 0}, {5, 5, 2}, {5, 5, -1}};
        for (int[] w : wrong) {
            C.due("wakings refused", x.wakings(w[0], w[1], w[2]), -1);
        }
    }

    private static void guards() {
        for (int k = 0; k <= 9; k++) {
            for (int r = 0; r <= k; r++) {
                StrokesOnWall x = new StrokesOnWall();
                for (int g = 0; g <= 10; g++) {
                    long first = 1;
                    long second = 1;
                    for (int i = 0; i < k; i++) {
                        first *= 5;
                        second *= i < r ? g : 10 - g;
                    }
                    long both = first + second;
                    long common = java.math.BigInteger.valueOf(first).gcd(java.math.BigInteger.valueOf(both)).longValue();
                    C.due("guard above " + k + " " + r + " " + g, x.guard(k, r, g, 0), first / common);
                    C.due("guard below " + k + " " + r + " " + g, x.guard(k, r, g, 1), both / common);
                }
            }
        }
        StrokesOnWall x = new StrokesOnWall();
        C.due("guard(9, 0, 0, 1)", x.guard(9, 0, 0, 1), 513);
        C.due("guard(4, 2, 10, 1)", x.guard(4, 2, 10, 1), 1);
        int[][] wrong = {{-1, 0, 5, 0}, {10, 0, 5, 0}, {5, -1, 5, 0}, {5, 6, 5, 0}, {5, 5, -1, 0}, {5, 5, 11, 0},
            {5, 5, 5, -1}, {5, 5, 5, 2}};
        for (int[] w : wrong) {
            C.due("guard refused", x.guard(w[0], w[1], w[2], w[3]), -FAR - 1);
        }
    }

    private static void diaryAsDue(StrokesOnWall x, int want, int... told) {
        Checks.row(x, D, 0, told);
        C.due("diary of " + java.util.Arrays.toString(told), x.diary(D), want);
    }

    private static void diaries() {
        StrokesOnWall x = new StrokesOnWall();
        diaryAsDue(x, -4);
        diaryAsDue(x, -4, 0, 0, 6, 6, 7, 0, 99, 1);
        diaryAsDue(x, 0, 0, 1);
        diaryAsDue(x, 2, 0, 0, 0, 0);
        diaryAsDue(x, 2, 5, 5, 4, 4, 1, 6);
        diaryAsDue(x, 4, 1, 1, 2, 2, 3, 4);
        diaryAsDue(x, 4, 1, 1, 9, 2, 5, 5);
        x.week(3);
        diaryAsDue(x, -4, 0, 3, 3, 6, 4, 0, 98, 3, 99, 4);
        diaryAsDue(x, 2, 0, 3, 4, 4);
        C.due("a diary stays", x.element(D, 2), 4);
    }

    private static void diaryRefusals() {
        StrokesOnWall x = new StrokesOnWall();
        C.due("diary(-1)", x.diary(-1), -1);
        C.due("diary(8)", x.diary(8), -1);
        C.due("diary of nothing", x.diary(D), -11);
        x.keep(D, 1, 0, 0);
        C.due("diary of a dawn", x.diary(D), -12);
        x.row(D, 1, 1);
        C.due("diary of shorts", x.diary(D), -12);
        x.row(D, 2, 0);
        C.due("diary of ints", x.diary(D), -12);
        diaryAsDue(x, -13, 0);
        diaryAsDue(x, -13, 0, 0, 1);
        diaryAsDue(x, -13, 0, 5, 100, 2);
        diaryAsDue(x, -13, 0, 5, -1, 6);
        diaryAsDue(x, -13, 0, 5, 1, 7);
        diaryAsDue(x, -13, 0, 5, 1, -1);
    }

    private static void judgedAsDue(StrokesOnWall x, int want, int sort, int... told) {
        Checks.row(x, D, sort, told);
        C.due("judge of " + java.util.Arrays.toString(told) + " of sort " + sort, x.judge(D), want);
    }

    private static void judgements() {
        StrokesOnWall x = Checks.walled("d10;d20;d30;d45;");
        int[] leasts = {-128, -32768, Integer.MIN_VALUE};
        for (int sort = 0; sort < 3; sort++) {
            int skip = leasts[sort];
            judgedAsDue(x, -4, sort, 1, 1, 3, 8);
            judgedAsDue(x, -4, sort, skip, 1, skip, 8);
            judgedAsDue(x, 0, sort, 0, 1, 3, 8);
            judgedAsDue(x, 0, sort, skip + 1, 1, 3, 8);
            judgedAsDue(x, 3, sort, 1, 1, 3, 9);
            judgedAsDue(x, 1, sort, skip, 2, 4);
            judgedAsDue(x, 0, sort);
            judgedAsDue(x, 3, sort, 1, 1, 3);
            judgedAsDue(x, 4, sort, 1, 1, 3, 8, 8);
            judgedAsDue(x, 4, sort, 1, 1, 3, 8, skip, skip);
            judgedAsDue(x, 2, sort, 1, 1, 2, 8, 8);
        }
        C.due("what is judged stays", x.element(D, 2), 2);
        judgedAsDue(x, 1, 1, 1, -128, 3, 8);
        judgedAsDue(x, 1, 2, 1, -32768, 3, 8);
        C.due("judge(-1)", x.judge(-1), -1);
        C.due("judge(8)", x.judge(8), -1);
        C.due("judge of nothing", x.judge(2), -11);
        x.keep(2, 1, 0, 0);
        C.due("judge of a dawn", x.judge(2), -12);
        StrokesOnWall none = new StrokesOnWall();
        judgedAsDue(none, -4, 0);
        judgedAsDue(none, 0, 0, 0);
        judgedAsDue(none, 0, 0, -128);
    }
}
