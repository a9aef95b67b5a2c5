import java.math.BigInteger;
import java.util.Arrays;
import java.util.Random;

/** Promises 20, 21 and 23 to 25 beside plain models: dates, star, guard, diary, judge. */
public final class MoonsModelTest {
    private static final Checks C = new Checks();
    private static final int D = 6;

    public static void main(String[] args) {
        dates();
        stars();
        guards();
        for (int seed = 0; seed < 2000; seed++) {
            diaryAsDue(new Random(seed));
            judgedAsDue(new Random(seed));
        }
        C.end();
    }

    /** The shorter way round, gone step by step. */
    private static boolean near(int a, int b, int e) {
        for (int step = 0; step <= e; step++) {
            if ((a + step) % 30 == b || (b + step) % 30 == a) {
                return true;
            }
        }
        return false;
    }

    private static void datesAsDue(StrokesOnWall x, int from, int to, int moon, int e) {
        int many = 0;
        int first = -4;
        for (int day = to; day >= from; day--) {
            if (near((day * 11 + 7) % 30, moon, e)) {
                many++;
                first = day;
            }
        }
        String told = " " + from + " " + to + " " + moon + " " + e;
        C.due("dates, how many" + told, x.dates(from, to, moon, e, 0), many);
        C.due("dates, the first" + told, x.dates(from, to, moon, e, 1), first);
    }

    private static void dates() {
        int[][] spans = {{0, 364}, {0, 0}, {364, 364}, {100, 120}, {200, 199}, {364, 0}, {17, 29}};
        for (int[] span : spans) {
            for (int e = 0; e <= 14; e++) {
                StrokesOnWall x = new StrokesOnWall();
                for (int moon = 0; moon < 30; moon++) {
                    datesAsDue(x, span[0], span[1], moon, e);
                }
            }
        }
    }

    private static void starAsDue(StrokesOnWall x, int minute, int e) {
        int many = 0;
        int first = -4;
        for (int day = 364; day >= 0; day--) {
            int at = 1439 - 4 * day < 0 ? 2879 - 4 * day : 1439 - 4 * day;
            if (at - minute <= e && minute - at <= e) {
                many++;
                first = day;
            }
        }
        C.due("star, how many " + minute + " " + e, x.star(minute, e, 0), many);
        C.due("star, the first " + minute + " " + e, x.star(minute, e, 1), first);
    }

    private static void stars() {
        int[] minutes = {0, 1, 2, 3, 4, 50, 99, 100, 719, 1340, 1419, 1420, 1422, 1423, 1424, 1430, 1438, 1439};
        int[] slips = {0, 1, 2, 3, 4, 5, 98, 99};
        StrokesOnWall x = new StrokesOnWall();
        for (int minute : minutes) {
            for (int e : slips) {
                starAsDue(x, minute, e);
            }
        }
    }

    private static void guards() {
        for (int k = 0; k <= 9; k++) {
            for (int r = 0; r <= k; r++) {
                StrokesOnWall x = new StrokesOnWall();
                for (int g = 0; g <= 10; g++) {
                    long first = 1;
                    long second = 1;
                    for (int i = 0; i < k; i++) {
                        first *= 5;
                        second *= i < r ? g : 10 - g;
                    }
                    long both = first + second;
                    long common = BigInteger.valueOf(first).gcd(BigInteger.valueOf(both)).longValue();
                    C.due("guard above " + k + " " + r + " " + g, x.guard(k, r, g, 0), first / common);
                    C.due("guard below " + k + " " + r + " " + g, x.guard(k, r, g, 1), both / common);
                }
            }
        }
    }

    private static void diaryAsDue(Random random) {
        StrokesOnWall x = new StrokesOnWall();
        int week = random.nextInt(7);
        x.week(week);
        int[] told = new int[random.nextInt(10) == 0 ? 5 : 2 * random.nextInt(6)];
        int want = told.length % 2 == 0 ? -4 : -13;
        int day = 0;
        int ahead = -1;
        for (int i = 0; i + 1 < told.length; i += 2) {
            day += 1 + random.nextInt(20) - random.nextInt(4);
            told[i] = day;
            told[i + 1] = (day + week + 7 + (random.nextInt(8) == 0 ? 1 : 0)) % 7;
            if (random.nextInt(30) == 0) {
                told[i + 1] = 7;
            }
            if (day < 0 || day > 99 || told[i + 1] > 6) {
                want = -13;
            } else if (want == -4 && (day <= ahead || told[i + 1] != (day + week) % 7)) {
                want = i;
            }
            ahead = day;
        }
        Checks.row(x, D, 0, told);
        C.due("diary of " + Arrays.toString(told) + ", WEEK " + week, x.diary(D), want);
    }

    private static void judgedAsDue(Random random) {
        int dawns = random.nextInt(6);
        int sort = random.nextInt(3);
        int[] least = {Byte.MIN_VALUE, Short.MIN_VALUE, Integer.MIN_VALUE};
        StrokesOnWall x = new StrokesOnWall();
        int[] told = new int[Math.max(0, dawns + random.nextInt(3) - 1)];
        int want = told.length == dawns ? -4 : Math.min(told.length, dawns);
        int thought = 0;
        boolean so = true;
        for (int k = 0; k < Math.max(dawns, told.length); k++) {
            if (k < dawns) {
                int figure = random.nextInt(10);
                Checks.come(x, 4, figure, 1);
                thought += figure;
            }
            if (k < told.length) {
                int other = random.nextInt(8);
                told[k] = other == 0 ? least[sort] : other == 1 ? thought + 1 : thought;
                if (k < dawns && other == 1 && so) {
                    so = false;
                    want = k;
                }
            }
        }
        Checks.row(x, D, sort, told);
        C.due("judge of " + Arrays.toString(told) + " of SORT " + sort, x.judge(D), want);
    }
}
