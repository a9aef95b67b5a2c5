import java.math.BigInteger;

/** Promises 9 to 13 beside sums of their own with big numbers: chance, odds, date, next, lost. */
public final class LikelyModelTest {
    private static final Checks C = new Checks();
    private static final int E = 4;

    public static void main(String[] args) {
        chances();
        lostDays();
        likelyWithSigns();
        C.end();
    }

    private static boolean told(int md) {
        return md / 10 + md % 10 <= 10;
    }

    /** In how many of 10 ways a day there are s strokes: all days are gone through, one by one. */
    private static BigInteger ways(int md, int t, int s) {
        if (s < 0 || s > 2 * t) {
            return BigInteger.ZERO;
        }
        if (t == 0) {
            return BigInteger.ONE;
        }
        int m = md / 10;
        int d = md % 10;
        BigInteger sum = BigInteger.valueOf(m).multiply(ways(md, t - 1, s));
        sum = sum.add(BigInteger.valueOf(10 - m - d).multiply(ways(md, t - 1, s - 1)));
        return sum.add(BigInteger.valueOf(d).multiply(ways(md, t - 1, s - 2)));
    }

    private static long part(BigInteger above, BigInteger below, int part) {
        if (above.signum() == 0 || below.signum() == 0) {
            return part;
        }
        return (part == 0 ? above : below).divide(above.gcd(below)).longValueExact();
    }

    private static void chances() {
        for (int md = 0; md <= 99; md++) {
            if (!told(md)) {
                continue;
            }
            for (int t = 0; t <= 6; t++) {
                StrokesOnWall x = new StrokesOnWall();
                for (int s = 0; s <= 24; s++) {
                    for (int part = 0; part < 2; part++) {
                        long want = part(ways(md, t, s), BigInteger.TEN.pow(t), part);
                        C.due("chance " + md + " " + t + " " + s + " " + part, x.chance(md, t, s, part), want);
                    }
                }
            }
        }
        StrokesOnWall x = new StrokesOnWall();
        for (int s = 0; s <= 24; s++) {
            for (int part = 0; part < 2; part++) {
                long want = part(ways(37, 12, s), BigInteger.TEN.pow(12), part);
                C.due("chance 37 12 " + s + " " + part, x.chance(37, 12, s, part), want);
                want = part(ways(42, 11, s), BigInteger.TEN.pow(11), part);
                C.due("chance 42 11 " + s + " " + part, x.chance(42, 11, s, part), want);
            }
        }
    }

    private static void lostDays() {
        int[] some = {0, 10, 19, 30, 33, 55, 91, 90, 8};
        for (int md : some) {
            for (int t = 1; t <= 7; t++) {
                StrokesOnWall x = new StrokesOnWall();
                for (int s = 0; s <= 24; s++) {
                    BigInteger above = BigInteger.valueOf(md / 10).multiply(ways(md, t - 1, s));
                    for (int part = 0; part < 2; part++) {
                        long want = part(above, ways(md, t, s), part);
                        C.due("lost " + md + " " + t + " " + s, x.lost(md, t, s, 1 + s % t, part), want);
                    }
                }
            }
        }
    }

    private static BigInteger weight(int md, int t, int s, int[] signs) {
        BigInteger w = ways(md, t, s).multiply(BigInteger.TEN.pow(12 - t));
        for (int i = 0; i < signs.length; i += 3) {
            boolean so = t % signs[i] == signs[i + 1];
            w = w.multiply(BigInteger.valueOf(so ? 10 - signs[i + 2] : signs[i + 2]));
        }
        return w;
    }

    private static void likelyWithSigns() {
        int[][] signs = {{}, {7, 6, 2}, {2, 1, 0}, {9, 8, 9}, {7, 6, 2, 3, 0, 0}, {5, 0, 5, 4, 3, 1},
            {8, 4, 9, 8, 4, 9}, {3, 2, 0, 4, 1, 0}};
        int[] some = {0, 10, 22, 91, 90, 1, 46, 9};
        for (int[] row : signs) {
            for (int md : some) {
                for (int s = 0; s <= 24; s += md == 91 ? 1 : 3) {
                    likelyAsDue(md, s, row);
                }
            }
        }
    }

    private static void likelyAsDue(int md, int s, int[] signs) {
        String told = " " + md + " " + s + " " + java.util.Arrays.toString(signs);
        StrokesOnWall x = new StrokesOnWall();
        Checks.row(x, E, 0, signs);
        BigInteger[] weights = new BigInteger[13];
        BigInteger sum = BigInteger.ZERO;
        int least = -4;
        int greatest = -4;
        int best = -4;
        for (int t = 0; t <= 12; t++) {
            weights[t] = weight(md, t, s, signs);
            sum = sum.add(weights[t]);
            if (weights[t].signum() > 0) {
                least = least < 0 ? t : least;
                greatest = t;
                best = best < 0 || weights[t].compareTo(weights[best]) > 0 ? t : best;
            }
        }
        for (int t = 0; t <= 12; t++) {
            C.due("odds above " + t + told, x.odds(md, t, s, E, 0), part(weights[t], sum, 0));
            C.due("odds below " + t + told, x.odds(md, t, s, E, 1), part(weights[t], sum, 1));
        }
        C.due("date 0" + told, x.date(md, s, E, 0), best);
        C.due("date 1" + told, x.date(md, s, E, 1), least);
        C.due("date 2" + told, x.date(md, s, E, 2), greatest);
        int divisor = -4;
        int number = -4;
        for (int m = 9; m >= 2 && least >= 0; m--) {
            int[] many = new int[m];
            int most = 0;
            for (int t = 0; t <= 12; t++) {
                if (weights[t].signum() > 0) {
                    most = Math.max(most, ++many[t % m]);
                }
            }
            if (divisor < 0 || most <= number) {
                divisor = m;
                number = most;
            }
        }
        C.due("next 0" + told, x.next(md, s, E, 0), divisor);
        C.due("next 1" + told, x.next(md, s, E, 1), number);
    }
}
