import java.util.Random;

/** Promises 29 to 35 beside a plain model: long runs of calls that change SHELVES. */
public final class ShelvesModelTest {
    private static final Checks C = new Checks();
    private static final int NOTHING = -1;
    private static final int DAWN = 3;

    private final Random random;
    private final StrokesOnWall x = new StrokesOnWall();
    /** What each SHELF holds: NOTHING, a SORT of ROWS, or a DAWN, of which rows[d] is the KIND and the FIGURE. */
    private final int[] held = {NOTHING, NOTHING, NOTHING, NOTHING, NOTHING, NOTHING, NOTHING, NOTHING};
    private final int[][] rows = new int[8][];

    private ShelvesModelTest(int seed) {
        random = new Random(seed);
    }

    public static void main(String[] args) {
        for (int seed = 0; seed < 400; seed++) {
            new ShelvesModelTest(seed).run();
        }
        C.end();
    }

    private void run() {
        for (int step = 0; step < 100; step++) {
            switch (random.nextInt(6)) {
                case 0:
                    keeps();
                    break;
                case 1:
                    rowComes();
                    break;
                case 2: case 3:
                    puts();
                    break;
                default:
                    copies();
                    break;
            }
            looks();
        }
    }

    /** Mostly one of three SHELVES, so that they hold something; now and then one that isn't there. */
    private int shelf() {
        if (random.nextInt(20) == 0) {
            return random.nextBoolean() ? -1 : 8;
        }
        return random.nextInt(5) == 0 ? 3 + random.nextInt(5) : random.nextInt(3);
    }

    private boolean isShelf(int d) {
        return d >= 0 && d < 8;
    }

    private void keeps() {
        int d = shelf();
        int what = random.nextInt(4);
        int kind = random.nextInt(10) - 1;
        int figure = random.nextInt(12) - 1;
        boolean dawn = what == 1 && kind >= 0 && kind < 8 && figure >= 0 && figure < 10;
        boolean taken = isShelf(d) && (what == 0 || dawn);
        C.due("keep", x.keep(d, what, kind, figure), taken ? 0 : -1);
        if (taken) {
            held[d] = dawn ? DAWN : NOTHING;
            rows[d] = new int[] {kind, figure};
        }
    }

    private void rowComes() {
        int d = shelf();
        int sort = random.nextInt(5) - 1;
        int n = random.nextInt(8) == 0 ? 99 + random.nextInt(4) : random.nextInt(12) - 1;
        int want = !isShelf(d) || sort < 0 || sort > 2 || n > 100 ? -1 : n < 0 ? -14 : 0;
        C.due("row", x.row(d, sort, n), want);
        if (want == 0) {
            held[d] = sort;
            rows[d] = new int[n];
        }
    }

    private int refusal(int d, boolean wantsDawn) {
        if (!isShelf(d)) {
            return -1;
        }
        if (held[d] == NOTHING) {
            return -11;
        }
        return (held[d] == DAWN) == wantsDawn ? 0 : -12;
    }

    private void puts() {
        int d = shelf();
        int i = random.nextInt(12) - 1;
        int v = random.nextInt(2) == 0 ? random.nextInt() : random.nextInt(600) - 300;
        int want = refusal(d, false);
        if (want == 0 && (i < 0 || i >= rows[d].length)) {
            want = -13;
        }
        C.due("put", x.put(d, i, v), want);
        if (want == 0) {
            int bits = held[d] == 0 ? 24 : held[d] == 1 ? 16 : 0;
            rows[d][i] = v << bits >> bits;
        }
    }

    private void copies() {
        int d = shelf();
        int e = random.nextInt(3) == 0 ? d : shelf();
        int i = random.nextInt(9) - 1;
        int j = random.nextInt(9) - 1;
        int n = random.nextInt(7) - 1;
        int want = n;
        if (!isShelf(d) || !isShelf(e)) {
            want = -1;
        } else if (held[d] == NOTHING || held[e] == NOTHING) {
            want = -11;
        } else if (held[d] == DAWN || held[d] != held[e]) {
            want = -12;
        } else if (i < 0 || j < 0 || n < 0 || i + n > rows[d].length || j + n > rows[e].length) {
            want = -13;
        }
        C.due("copy", x.copy(d, i, e, j, n), want);
        if (want >= 0) {
            int[] taken = rows[d].clone();
            for (int k = 0; k < n; k++) {
                rows[e][j + k] = taken[i + k];
            }
        }
    }

    private void looks() {
        int d = shelf();
        int i = random.nextInt(10) - 1;
        String want = Checks.ILLEGAL_STATE;
        if (!isShelf(d)) {
            want = Checks.ILLEGAL_ARGUMENT;
        } else if (held[d] != NOTHING && held[d] != DAWN && i >= 0 && i < rows[d].length) {
            want = Integer.toString(rows[d][i]);
        }
        C.dueText("element", Checks.element(x, d, i), want);
        int refusal = refusal(d, true);
        C.due("ease", x.ease(d), refusal == 0 ? ease(rows[d][0], rows[d][1]) : refusal);
        C.due("toss", x.toss(d), refusal == 0 ? failure(rows[d][0], rows[d][1]) : refusal);
    }

    private static int ease(int kind, int figure) {
        int[] plain = {1, 3, 0, 6, 0, 0, 3, 9};
        int[] times = {0, 0, 0, 0, 1, -1, 1, 0};
        return plain[kind] + times[kind] * figure;
    }

    private static int failure(int kind, int figure) {
        if (kind == 4 || figure == 0) {
            return -15;
        }
        return kind == 5 ? 100 + figure : kind == 7 ? 209 : figure;
    }
}
