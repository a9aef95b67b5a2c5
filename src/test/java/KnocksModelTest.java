import java.util.Arrays;
import java.util.Random;

/** Promises 14 to 18 beside plain models: joined, copied, events, rule, bestRule. */
public final class KnocksModelTest {
    private static final Checks C = new Checks();
    private static final int D = 5;

    public static void main(String[] args) {
        for (int seed = 0; seed < 1000; seed++) {
            knocksAsDue(new Random(seed));
            eventsAsDue(new Random(seed));
        }
        rules();
        C.end();
    }

    private static void knocksAsDue(Random random) {
        int[] knocks = new int[1 + random.nextInt(8)];
        for (int i = 0; i < knocks.length; i++) {
            knocks[i] = random.nextInt(25) - 12;
        }
        int best = 0;
        int least = Integer.MAX_VALUE;
        for (int number = -12; number <= 12; number++) {
            int sum = 0;
            for (int knock : knocks) {
                sum += Math.abs(knock - number);
            }
            if (sum < least) {
                best = number;
                least = sum;
            }
        }
        int twice = 0;
        for (int one : knocks) {
            for (int other : knocks) {
                twice += one == other ? 1 : 0;
            }
        }
        StrokesOnWall x = new StrokesOnWall();
        Checks.row(x, D, 2, knocks);
        String told = Arrays.toString(knocks);
        C.due("joined(0) of " + told, x.joined(D, 0), best);
        C.due("joined(1) of " + told, x.joined(D, 1), least);
        C.due("copied of " + told, x.copied(D), (twice - knocks.length) / 2);
    }

    private static void eventsAsDue(Random random) {
        int[] thoughts = new int[1 + random.nextInt(8)];
        StrokesOnWall x = new StrokesOnWall();
        for (int k = 0; k < thoughts.length; k++) {
            int figure = random.nextInt(10);
            Checks.come(x, 4, figure, 1);
            thoughts[k] = figure + (k == 0 ? 0 : thoughts[k - 1]);
        }
        int[] told = new int[random.nextInt(10) == 0 ? 5 : 2 * random.nextInt(6)];
        int want = told.length % 2 == 0 ? -4 : -13;
        for (int i = 0; i + 1 < told.length; i += 2) {
            int behind = 1 + random.nextInt(thoughts.length);
            if (random.nextInt(20) == 0) {
                behind = random.nextBoolean() ? 0 : thoughts.length + 1;
            }
            boolean there = behind > 0 && behind <= thoughts.length;
            boolean so = random.nextInt(5) > 0;
            told[i] = there ? thoughts[behind - 1] + (so ? 0 : 1) : 0;
            told[i + 1] = behind;
            if (!there) {
                want = -13;
            } else if (!so && want == -4) {
                want = i;
            }
        }
        Checks.row(x, D, 2, told);
        C.due("events of " + Arrays.toString(told), x.events(D), want);
    }

    /** How far off a RULE is, told again day by day. */
    private static int off(int rule, int md, int n, int z) {
        long seed = z;
        int m = md / 10;
        int d = md % 10;
        int count = 0;
        for (int day = 1; day <= n; day++) {
            int[] marks = new int[2];
            for (int what = 0; what < 2; what++) {
                seed = (int) (seed * 1103515245L + 12345L);
                long draw = ((seed & 0x7fffffffL) >> 16) % 10;
                marks[what] = draw < m ? 0 : draw - m < d ? 2 : 1;
            }
            if (rule == 1 && marks[1] > marks[0] || rule == 3 && marks[1] < marks[0]) {
                count += marks[1];
            } else {
                count += marks[0];
            }
            while (rule == 2 && day % 7 == 0 && count % 7 != 0) {
                count++;
            }
        }
        return n - count;
    }

    private static void rules() {
        int[] seeds = {0, 1, 5, -1, 12345, Integer.MAX_VALUE, Integer.MIN_VALUE, 987654321, -777};
        int[] days = {1, 2, 6, 7, 8, 13, 14, 15, 59, 60};
        for (int md = 0; md <= 99; md += md < 20 ? 1 : 3) {
            if (md / 10 + md % 10 > 10) {
                continue;
            }
            for (int n : days) {
                StrokesOnWall x = new StrokesOnWall();
                for (int z : seeds) {
                    rulesAsDue(x, md, n, z);
                }
            }
        }
    }

    private static void rulesAsDue(StrokesOnWall x, int md, int n, int z) {
        int best = 0;
        for (int rule = 0; rule < 4; rule++) {
            int want = off(rule, md, n, z);
            C.due("rule " + rule + " " + md + " " + n + " " + z, x.rule(rule, md, n, z), want);
            if (Math.abs(want) < Math.abs(off(best, md, n, z))) {
                best = rule;
            }
        }
        C.due("bestRule " + md + " " + n + " " + z, x.bestRule(md, n, z), best);
    }
}
