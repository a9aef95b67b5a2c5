import java.math.BigInteger;

/** Promises 9 to 13: chance, odds, date, next, lost. */
public final class LikelyTest {
    private static final Checks C = new Checks();
    private static final long FAR = Checks.APART;
    private static final int E = 4;

    public static void main(String[] args) {
        chances();
        chanceRefusals();
        lostDays();
        lostRefusals();
        oddsByHand();
        datesByHand();
        nextByHand();
        likelyWithSigns();
        signRefusals();
        likelyRefusals();
        C.end();
    }

    private static boolean told(int md) {
        return md / 10 + md % 10 <= 10;
    }

    /** In how many of 10 ways a day there are s strokes: all days are gone through, one by one. */
    private static BigInteger ways(int md, int t, int s) {
        if (s < 0 || s > 2 * t) {
            return BigInteger.ZERO;
        }
        if (t == 0) {
            return BigInteger.ONE;
        }
        int m = md / 10;
        int d = md % 10;
        BigInteger sum = BigInteger.valueOf(m).multiply(ways(md, t - 1, s));
        sum = sum.add(BigInteger.valueOf(10 - m - d).multiply(ways(md, t - 1, s - 1)));
        return sum.add(BigInteger.valueOf(d).multiply(ways(md, t - 1, s - 2)));
    }

    private static long part(BigInteger above, BigInteger below, int part) {
        if (above.signum() == 0 || below.signum() == 0) {
            return part;
        }
        return (part == 0 ? above : below).divide(above.gcd(below)).longValueExact();
    }

    private static void chances() {
        for (int md = 0; md <= 99; md++) {
            if (!told(md)) {
                continue;
            }
            for (int t = 0; t <= 6; t++) {
                StrokesOnWall x = new StrokesOnWall();
                for (int s = 0; s <= 24; s++) {
                    for (int part = 0; part < 2; part++) {
                        long want = part(ways(md, t, s), BigInteger.TEN.pow(t), part);
                        C.due("chance " + md + " " + t + " " + s + " " + part, x.chance(md, t, s, part), want);
                    }
                }
            }
        }
        StrokesOnWall x = new StrokesOnWall();
        for (int s = 0; s <= 24; s++) {
            for (int part = 0; part < 2; part++) {
                long want = part(ways(37, 12, s), BigInteger.TEN.pow(12), part);
                C.due("chance 37 12 " + s + " " + part, x.chance(37, 12, s, part), want);
                want = part(ways(42, 11, s), BigInteger.TEN.pow(11), part);
                C.due("chance 42 11 " + s + " " + part, x.chance(42, 11, s, part), want);
            }
        }
        C.due("chance(90, 12, 0, 1)", x.chance(90, 12, 0, 1), 1000000000000L);
        C.due("chance(50, 1, 0, 1)", x.chance(50, 1, 0, 1), 2);
        C.due("chance(0, 0, 24, 1)", x.chance(0, 0, 24, 1), 1);
    }

    private static void chanceRefusals() {
        StrokesOnWall x = new StrokesOnWall();
        int[][] wrong = {{-1, 1, 1, 0}, {100, 1, 1, 0}, {29, 1, 1, 0}, {92, 1, 1, 0}, {10, -1, 1, 0},
            {10, 13, 1, 0}, {10, 1, -1, 0}, {10, 1, 25, 0}, {10, 1, 1, -1}, {10, 1, 1, 2},
            {Integer.MIN_VALUE, 1, 1, 0}, {Integer.MAX_VALUE, 1, 1, 0}, {-10, 1, 1, 0}};
        for (int[] w : wrong) {
            C.due("chance refused", x.chance(w[0], w[1], w[2], w[3]), -FAR - 1);
        }
        C.due("chance(28, ..) is told", x.chance(28, 1, 0, 1), 5);
        C.due("chance(91, ..) is told", x.chance(91, 1, 2, 1), 10);
        C.due("chance(9, ..) is told", x.chance(9, 1, 2, 0), 9);
    }

    private static void lostDays() {
        int[] some = {0, 10, 19, 30, 33, 55, 91, 90, 8};
        for (int md : some) {
            for (int t = 1; t <= 7; t++) {
                StrokesOnWall x = new StrokesOnWall();
                for (int s = 0; s <= 24; s++) {
                    BigInteger above = BigInteger.valueOf(md / 10).multiply(ways(md, t - 1, s));
                    for (int part = 0; part < 2; part++) {
                        long want = part(above, ways(md, t, s), part);
                        C.due("lost " + md + " " + t + " " + s, x.lost(md, t, s, 1 + s % t, part), want);
                    }
                }
            }
        }
        StrokesOnWall x = new StrokesOnWall();
        C.due("lost(20, 12, 11, 12, 0)", x.lost(20, 12, 11, 12, 0), 1);
        C.due("lost(20, 12, 11, 12, 1)", x.lost(20, 12, 11, 12, 1), 12);
        C.due("lost(90, 1, 0, 1, 1)", x.lost(90, 1, 0, 1, 1), 1);
        C.due("lost(0, 3, 3, 2, 0)", x.lost(0, 3, 3, 2, 0), 0);
        C.due("lost(0, 3, 3, 2, 1)", x.lost(0, 3, 3, 2, 1), 1);
        C.due("lost(10, 2, 24, 2, 1)", x.lost(10, 2, 24, 2, 1), 1);
    }

    private static void lostRefusals() {
        StrokesOnWall x = new StrokesOnWall();
        int[][] wrong = {{-1, 2, 1, 1, 0}, {100, 2, 1, 1, 0}, {56, 2, 1, 1, 0}, {10, 0, 0, 0, 0}, {10, 0, 0, 1, 0},
            {10, 13, 1, 1, 0}, {10, 2, -1, 1, 0}, {10, 2, 25, 1, 0}, {10, 2, 1, 0, 0}, {10, 2, 1, 3, 0},
            {10, 2, 1, 1, -1}, {10, 2, 1, 1, 2}};
        for (int[] w : wrong) {
            C.due("lost refused", x.lost(w[0], w[1], w[2], w[3], w[4]), -FAR - 1);
        }
        C.due("lost(10, 2, 1, 2, 0) is told", x.lost(10, 2, 1, 2, 1), 2);
    }

    /** By 5 tenths for a stroke: 2 strokes on 2 days 1/4, on 3 days 3/8, on 4 days 3/8, on 5 days 5/16 .. */
    private static void oddsByHand() {
        StrokesOnWall x = new StrokesOnWall();
        x.row(E, 0, 0);
        long[] above = {0, 0, 1024, 1536, 1536, 1280, 960, 672, 448, 288, 180, 110, 66};
        long sum = 0;
        for (long a : above) {
            sum += a;
        }
        for (int t = 0; t <= 12; t++) {
            BigInteger a = BigInteger.valueOf(above[t]);
            C.due("odds above, " + t, x.odds(50, t, 2, E, 0), part(a, BigInteger.valueOf(sum), 0));
            C.due("odds below, " + t, x.odds(50, t, 2, E, 1), part(a, BigInteger.valueOf(sum), 1));
        }
        C.due("date of equals is the least", x.date(50, 2, E, 0), 3);
        Checks.row(x, E, 0, 2, 0, 0);
        C.due("odds of an odd number", x.odds(50, 3, 2, E, 0), 0);
        C.due("odds of an odd number", x.odds(50, 3, 2, E, 1), 1);
        C.due("odds with a rest, above", x.odds(50, 2, 2, E, 0), 512);
        C.due("odds with a rest, below", x.odds(50, 2, 2, E, 1), 2107);
        Checks.row(x, E, 0, 2, 0, 1);
        C.due("odds with a slip, above", x.odds(50, 3, 2, E, 0), 384);
        C.due("odds with a slip, below", x.odds(50, 3, 2, E, 1), 10453);
        Checks.row(x, E, 0, 2, 0, 0, 2, 1, 0);
        C.due("odds, all are 0", x.odds(50, 2, 2, E, 0), 0);
        C.due("odds, all are 0", x.odds(50, 2, 2, E, 1), 1);
        C.due("signs stay", x.element(E, 3), 2);
    }

    private static void datesByHand() {
        StrokesOnWall x = new StrokesOnWall();
        x.row(E, 0, 0);
        int[] due = {2, 2, 2};
        for (int what = 0; what < 3; what++) {
            C.due("date without slips", x.date(0, 2, E, what), due[what]);
            C.due("date that can't be", x.date(0, 13, E, what), -4);
            C.due("date that can't be by two", x.date(9, 24, E, what), 12);
        }
        C.due("date least by two", x.date(91, 24, E, 1), 12);
        C.due("date of no stroke", x.date(10, 0, E, 0), 0);
        C.due("date of no stroke, greatest", x.date(10, 0, E, 2), 12);
        C.due("date least by doubles", x.date(1, 9, E, 1), 5);
        C.due("date greatest by doubles", x.date(1, 9, E, 2), 9);
        Checks.row(x, E, 0, 5, 4, 0);
        C.due("date by a sign", x.date(50, 2, E, 0), 4);
        C.due("date by a sign, least", x.date(50, 2, E, 1), 4);
        C.due("date by a sign, greatest", x.date(50, 2, E, 2), 9);
        Checks.row(x, E, 0, 9, 8, 0, 2, 1, 0);
        for (int what = 0; what < 3; what++) {
            C.due("date by signs that can't be", x.date(50, 2, E, what), -4);
        }
    }

    private static void nextByHand() {
        StrokesOnWall x = new StrokesOnWall();
        x.row(E, 0, 0);
        C.due("next of 13 days: M", x.next(10, 0, E, 0), 7);
        C.due("next of 13 days: the number", x.next(10, 0, E, 1), 2);
        C.due("next of one day: M", x.next(0, 2, E, 0), 2);
        C.due("next of one day: the number", x.next(0, 2, E, 1), 1);
        C.due("next of none: M", x.next(0, 13, E, 0), -4);
        C.due("next of none: the number", x.next(0, 13, E, 1), -4);
        Checks.row(x, E, 0, 6, 0, 0);
        C.due("next of 0, 6, 12: M", x.next(10, 0, E, 0), 5);
        C.due("next of 0, 6, 12: the number", x.next(10, 0, E, 1), 1);
        Checks.row(x, E, 0, 7, 3, 0);
        C.due("next of 3, 10: M", x.next(10, 0, E, 0), 2);
        C.due("next of 3, 10: the number", x.next(10, 0, E, 1), 1);
    }

    private static BigInteger weight(int md, int t, int s, int[] signs) {
        BigInteger w = ways(md, t, s).multiply(BigInteger.TEN.pow(12 - t));
        for (int i = 0; i < signs.length; i += 3) {
            boolean so = t % signs[i] == signs[i + 1];
            w = w.multiply(BigInteger.valueOf(so ? 10 - signs[i + 2] : signs[i + 2]));
        }
        return w;
    }

    private static void likelyWithSigns() {
        int[][] signs = {{}, {7, 6, 2}, {2, 1, 0}, {9, 8, 9}, {7, 6, 2, 3, 0, 0}, {5, 0, 5, 4, 3, 1}, {8, 4, 9, 8, 4, 9},
            {3, 2, 0, 4, 1, 0}};
        int[] some = {0, 10, 22, 91, 90, 1, 46, 9};
        for (int[] row : signs) {
            for (int md : some) {
                for (int s = 0; s <= 24; s += md == 91 ? 1 : 3) {
                    likelyAsDue(md, s, row);
                }
            }
        }
    }

    private static void likelyAsDue(int md, int s, int[] signs) {
        String told = " " + md + " " + s + " " + java.util.Arrays.toString(signs);
        StrokesOnWall x = new StrokesOnWall();
        Checks.row(x, E, 0, signs);
        BigInteger[] weights = new BigInteger[13];
        BigInteger sum = BigInteger.ZERO;
        int least = -4;
        int greatest = -4;
        int best = -4;
        for (int t = 0; t <= 12; t++) {
            weights[t] = weight(md, t, s, signs);
            sum = sum.add(weights[t]);
            if (weights[t].signum() > 0) {
                least = least < 0 ? t : least;
                greatest = t;
                best = best < 0 || weights[t].compareTo(weights[best]) > 0 ? t : best;
            }
        }
        for (int t = 0; t <= 12; t++) {
            C.due("odds above " + t + told, x.odds(md, t, s, E, 0), part(weights[t], sum, 0));
            C.due("odds below " + t + told, x.odds(md, t, s, E, 1), part(weights[t], sum, 1));
        }
        C.due("date 0" + told, x.date(md, s, E, 0), best);
        C.due("date 1" + told, x.date(md, s, E, 1), least);
        C.due("date 2" + told, x.date(md, s, E, 2), greatest);
        int divisor = -4;
        int number = -4;
        for (int m = 9; m >= 2 && least >= 0; m--) {
            int[] many = new int[m];
            int most = 0;
            for (int t = 0; t <= 12; t++) {
                if (weights[t].signum() > 0) {
                    most = Math.max(most, ++many[t % m]);
                }
            }
            if (divisor < 0 || most <= number) {
                divisor = m;
                number = most;
            }
        }
        C.due("next 0" + told, x.next(md, s, E, 0), divisor);
        C.due("next 1" + told, x.next(md, s, E, 1), number);
    }

    private static void allRefused(StrokesOnWall x, String why, int refusal) {
        C.due("odds " + why, x.odds(10, 1, 1, E, 0), refusal - FAR);
        C.due("date " + why, x.date(10, 1, E, 0), refusal);
        C.due("next " + why, x.next(10, 1, E, 0), refusal);
    }

    private static void signRefusals() {
        StrokesOnWall x = new StrokesOnWall();
        allRefused(x, "nothing", -11);
        x.keep(E, 1, 0, 0);
        allRefused(x, "a dawn", -12);
        Checks.row(x, E, 1, 7, 6, 2);
        allRefused(x, "shorts", -12);
        Checks.row(x, E, 2, 7, 6);
        allRefused(x, "ints", -12);
        int[][] wrong = {{7}, {7, 6}, {7, 6, 2, 3}, {7, 6, 2, 3, 2}, {7, 6, 2, 7, 6, 2, 7, 6, 2}, {1, 0, 2}, {0, 0, 2},
            {-7, 0, 2}, {10, 0, 2}, {7, 7, 2}, {7, -1, 2}, {2, 2, 0}, {7, 6, 10}, {7, 6, -1}, {7, 6, 2, 10, 0, 0},
            {7, 6, 2, 3, 3, 0}, {7, 6, 2, 3, 0, 10}};
        for (int[] w : wrong) {
            Checks.row(x, E, 0, w);
            allRefused(x, java.util.Arrays.toString(w), -13);
        }
    }

    private static void likelyRefusals() {
        StrokesOnWall x = new StrokesOnWall();
        int[][] wrong = {{-1, 1, 1, E, 0}, {100, 1, 1, E, 0}, {47, 1, 1, E, 0}, {10, 1, -1, E, 0}, {10, 1, 25, E, 0},
            {10, 1, 1, -1, 0}, {10, 1, 1, 8, 0}, {10, 1, 1, E, -1}, {10, 1, 1, E, 3}};
        for (int[] w : wrong) {
            C.due("odds refused", x.odds(w[0], w[1], w[2], w[3], w[4]), -FAR - 1);
            C.due("date refused", x.date(w[0], w[2], w[3], w[4]), -1);
            C.due("next refused", x.next(w[0], w[2], w[3], w[4]), -1);
        }
        C.due("odds of -1 days", x.odds(10, -1, 1, E, 0), -FAR - 1);
        C.due("odds of 13 days", x.odds(10, 13, 1, E, 0), -FAR - 1);
        C.due("odds part 2", x.odds(10, 1, 1, E, 2), -FAR - 1);
        C.due("next what 2", x.next(10, 1, E, 2), -1);
        Checks.row(x, E, 0, 1);
        C.due("-1 ahead of -13", x.date(10, 1, E, 3), -1);
        C.due("-13 ahead of -4", x.date(0, 24, E, 0), -13);
        C.due("-13 ahead of -4", x.next(0, 24, E, 0), -13);
    }
}
