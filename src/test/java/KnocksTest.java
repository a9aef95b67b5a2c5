/** Promises 14 to 18: joined, copied, events, rule, bestRule. */
public final class KnocksTest {
    private static final Checks C = new Checks();
    private static final long FAR = Checks.APART;
    private static final int D = 5;

    public static void main(String[] args) {
        joins();
        copiedOnes();
        knockRefusals();
        events();
        eventRefusals();
        rules();
        ruleRefusals();
        C.end();
    }

    private static void joinedAsDue(int number, int sum, int... knocks) {
        StrokesOnWall x = new StrokesOnWall();
        Checks.row(x, D, 2, knocks);
        String told = java.util.Arrays.toString(knocks);
        C.due("joined(0) of " + told, x.joined(D, 0), number);
        C.due("joined(1) of " + told, x.joined(D, 1), sum);
    }

    private static void joins() {
        joinedAsDue(7, 0, 7);
        joinedAsDue(3, 4, 7, 3);
        joinedAsDue(3, 4, 3, 7);
        joinedAsDue(5, 10, 10, 0, 5);
        joinedAsDue(-9999, 19998, 9999, -9999);
        joinedAsDue(-9999, 79992, 9999, -9999, 9999, -9999, 9999, -9999, 9999, -9999);
        joinedAsDue(4, 16, 8, 7, 6, 5, 4, 3, 2, 1);
        joinedAsDue(0, 0, 0, 0, 0, 0);
        joinedAsDue(-5, 1, -5, -5, -4);
        java.util.Random random = new java.util.Random(5);
        for (int run = 0; run < 200; run++) {
            int[] knocks = new int[1 + random.nextInt(8)];
            for (int i = 0; i < knocks.length; i++) {
                knocks[i] = random.nextInt(25) - 12;
            }
            int best = 0;
            int least = Integer.MAX_VALUE;
            for (int number = -12; number <= 12; number++) {
                int sum = 0;
                for (int knock : knocks) {
                    sum += Math.abs(knock - number);
                }
                if (sum < least) {
                    best = number;
                    least = sum;
                }
            }
            joinedAsDue(best, least, knocks);
        }
    }

    private static void copiedAsDue(int pairs, int... knocks) {
        StrokesOnWall x = new StrokesOnWall();
        Checks.row(x, D, 2, knocks);
        C.due("copied of " + java.util.Arrays.toString(knocks), x.copied(D), pairs);
    }

    private static void copiedOnes() {
        copiedAsDue(0, 1);
        copiedAsDue(1, 1, 1);
        copiedAsDue(0, 1, -1);
        copiedAsDue(3, 1, 1, 1);
        copiedAsDue(2, 1, 2, 2, 1);
        copiedAsDue(28, 9999, 9999, 9999, 9999, 9999, 9999, 9999, 9999);
        copiedAsDue(1, -9999, 2, 3, 4, 5, 6, 7, -9999);
    }

    private static void knocksRefused(StrokesOnWall x, String why, int refusal) {
        C.due("joined " + why, x.joined(D, 0), refusal - FAR);
        C.due("copied " + why, x.copied(D), refusal);
    }

    private static void knockRefusals() {
        StrokesOnWall x = new StrokesOnWall();
        knocksRefused(x, "nothing", -11);
        C.due("joined(-1, 0)", x.joined(-1, 0), -FAR - 1);
        C.due("joined(8, 0)", x.joined(8, 0), -FAR - 1);
        C.due("joined(5, 2)", x.joined(D, 2), -FAR - 1);
        C.due("joined(5, -1)", x.joined(D, -1), -FAR - 1);
        C.due("copied(-1)", x.copied(-1), -1);
        C.due("copied(8)", x.copied(8), -1);
        x.keep(D, 1, 0, 0);
        knocksRefused(x, "a dawn", -12);
        Checks.row(x, D, 0, 1);
        knocksRefused(x, "bytes", -12);
        x.row(D, 1, 0);
        knocksRefused(x, "shorts", -12);
        x.row(D, 2, 0);
        knocksRefused(x, "empty", -13);
        C.due("joined(5, 2), empty", x.joined(D, 2), -FAR - 1);
        x.row(D, 2, 9);
        knocksRefused(x, "9", -13);
        Checks.row(x, D, 2, 1, 10000);
        knocksRefused(x, "10000", -13);
        Checks.row(x, D, 2, -10000, 1);
        knocksRefused(x, "-10000", -13);
        Checks.row(x, D, 2, 1, 2, 3, 4, 5, 6, 7, Integer.MIN_VALUE);
        knocksRefused(x, "min", -13);
        x.row(D, 2, 8);
        C.due("joined(5, 0), 8", x.joined(D, 0), 0);
        C.due("copied(5), 8", x.copied(D), 28);
    }

    private static void events() {
        StrokesOnWall x = Checks.walled("d10;d20;d30;d45;");
        Checks.row(x, D, 2, 1, 1, 1, 2, 3, 3, 8, 4);
        C.due("events as they were", x.events(D), -4);
        C.due("events stay", x.element(D, 6), 8);
        Checks.row(x, D, 2, 8, 4, 1, 1, 1, 1);
        C.due("events in any order", x.events(D), -4);
        Checks.row(x, D, 2, 8, 4, 2, 1, 1, 2);
        C.due("events, the second is off", x.events(D), 2);
        Checks.row(x, D, 2, 0, 1, 2, 1);
        C.due("events, the first is off", x.events(D), 0);
        Checks.row(x, D, 2, 8, 4, 3, 3, 1, 2, -1, 1);
        C.due("events, the latest is off", x.events(D), 6);
        x.row(D, 2, 0);
        C.due("no events", x.events(D), -4);
        C.due("no events on no wall", eventsOnNoWall(), -4);
    }

    private static int eventsOnNoWall() {
        StrokesOnWall x = new StrokesOnWall();
        x.row(D, 2, 0);
        return x.events(D);
    }

    private static void eventRefusals() {
        StrokesOnWall x = Checks.walled("t4;");
        C.due("events(-1)", x.events(-1), -1);
        C.due("events(8)", x.events(8), -1);
        C.due("events of nothing", x.events(D), -11);
        x.keep(D, 1, 0, 0);
        C.due("events of a dawn", x.events(D), -12);
        Checks.row(x, D, 0, 1, 1);
        C.due("events of bytes", x.events(D), -12);
        Checks.row(x, D, 1, 1, 1);
        C.due("events of shorts", x.events(D), -12);
        Checks.row(x, D, 2, 1, 1, 1);
        C.due("events of an odd size", x.events(D), -13);
        Checks.row(x, D, 2, 9, 1, 1, 0);
        C.due("events behind 0 dawns", x.events(D), -13);
        Checks.row(x, D, 2, 9, 1, 1, 5);
        C.due("events behind 5 dawns", x.events(D), -13);
        Checks.row(x, D, 2, 1, -1);
        C.due("events behind -1 dawns", x.events(D), -13);
        Checks.row(x, D, 2, 4, 4);
        C.due("events behind 4 dawns", x.events(D), -4);
    }

    /** How far off a RULE is, told again day by day. */
    private static int off(int rule, int md, int n, int z) {
        long seed = z;
        int m = md / 10;
        int d = md % 10;
        int count = 0;
        for (int day = 1; day <= n; day++) {
            int[] marks = new int[2];
            for (int what = 0; what < 2; what++) {
                seed = (int) (seed * 1103515245L + 12345L);
                long draw = ((seed & 0x7fffffffL) >> 16) % 10;
                marks[what] = draw < m ? 0 : draw - m < d ? 2 : 1;
            }
            if (rule == 1 && marks[1] > marks[0] || rule == 3 && marks[1] < marks[0]) {
                count += marks[1];
            } else {
                count += marks[0];
            }
            while (rule == 2 && day % 7 == 0 && count % 7 != 0) {
                count++;
            }
        }
        return n - count;
    }

    private static void rules() {
        int[] seeds = {0, 1, 5, -1, 12345, Integer.MAX_VALUE, Integer.MIN_VALUE, 987654321, -777};
        int[] days = {1, 2, 6, 7, 8, 13, 14, 15, 59, 60};
        for (int md = 0; md <= 99; md += md < 20 ? 1 : 3) {
            if (md / 10 + md % 10 > 10) {
                continue;
            }
            for (int n : days) {
                StrokesOnWall x = new StrokesOnWall();
                for (int z : seeds) {
                    rulesAsDue(x, md, n, z);
                }
            }
        }
        StrokesOnWall x = new StrokesOnWall();
        C.due("all as good: the least", x.bestRule(0, 60, 3), 0);
        C.due("rule(0, 0, 60, 3)", x.rule(0, 0, 60, 3), 0);
        C.due("rule(0, 9, 60, 3) may be below 0", x.rule(0, 9, 60, 3) < -40 ? 1 : 0, 1);
    }

    private static void rulesAsDue(StrokesOnWall x, int md, int n, int z) {
        int best = 0;
        for (int rule = 0; rule < 4; rule++) {
            int want = off(rule, md, n, z);
            C.due("rule " + rule + " " + md + " " + n + " " + z, x.rule(rule, md, n, z), want);
            if (Math.abs(want) < Math.abs(off(best, md, n, z))) {
                best = rule;
            }
        }
        C.due("bestRule " + md + " " + n + " " + z, x.bestRule(md, n, z), best);
    }

    private static void ruleRefusals() {
        StrokesOnWall x = new StrokesOnWall();
        C.due("rule(-1, ..)", x.rule(-1, 10, 5, 0), -FAR - 1);
        C.due("rule(4, ..)", x.rule(4, 10, 5, 0), -FAR - 1);
        int[][] wrong = {{-1, 5}, {100, 5}, {65, 5}, {10, 0}, {10, 61}, {10, -1}, {10, Integer.MAX_VALUE}};
        for (int[] w : wrong) {
            C.due("rule refused", x.rule(0, w[0], w[1], 0), -FAR - 1);
            C.due("bestRule refused", x.bestRule(w[0], w[1], 0), -1);
        }
    }
}
