import java.util.ArrayList;
import java.util.List;
import java.util.Random;

/** Long runs of calls that change a wall, each answer beside that of a plain model: a list of KINDS and FIGURES. */
public final class WallsModelTest {
    private static final Checks C = new Checks();

    private final Random random;
    private final StrokesOnWall x = new StrokesOnWall();
    private List<int[]> dawns = new ArrayList<>();
    private int week = 0;
    private List<int[]> imageDawns = null;
    private int imageWeek = 0;

    private WallsModelTest(int seed) {
        random = new Random(seed);
    }

    public static void main(String[] args) {
        for (int seed = 0; seed < 400; seed++) {
            new WallsModelTest(seed).run();
        }
        C.end();
    }

    private void run() {
        // Some 90 steps of about 5 calls stay below 512 calls.
        int calls = 0;
        while (calls < 440) {
            switch (random.nextInt(6)) {
                case 0:
                    calls += oneComes();
                    break;
                case 1:
                    C.due("back", x.back(), dawns.isEmpty() ? -3 : dawns.size() - 1);
                    if (!dawns.isEmpty()) {
                        dawns.remove(dawns.size() - 1);
                    }
                    calls++;
                    break;
                case 2:
                    calls += weekOrImage();
                    break;
                default:
                    calls += wallIsRead();
                    break;
            }
            calls += look();
        }
    }

    private int oneComes() {
        int[] dawn = {random.nextInt(8), random.nextInt(10)};
        C.due("keep", x.keep(3, 1, dawn[0], dawn[1]), 0);
        if (dawns.size() < 40) {
            dawns.add(dawn);
            C.due("comes", x.comes(3), thought(dawns, dawns.size() - 1));
        } else {
            C.due("comes", x.comes(3), -2);
        }
        return 2;
    }

    private int weekOrImage() {
        switch (random.nextInt(3)) {
            case 0:
                int n = random.nextInt(8);
                C.due("week", x.week(n), n > 6 ? -1 : week);
                week = n > 6 ? week : n;
                break;
            case 1:
                C.due("image", x.image(), dawns.size());
                imageDawns = new ArrayList<>(dawns);
                imageWeek = week;
                break;
            default:
                C.due("restore", x.restore(), imageDawns == null ? -3 : imageDawns.size());
                if (imageDawns != null) {
                    dawns = new ArrayList<>(imageDawns);
                    week = imageWeek;
                }
                break;
        }
        return 1;
    }

    private int wallIsRead() {
        StringBuilder text = new StringBuilder();
        int statements = 1 + random.nextInt(5);
        List<int[]> now = new ArrayList<>(dawns);
        int nowWeek = week;
        int fault = -1;
        for (int i = 0; i < statements; i++) {
            int at = text.length();
            boolean done = true;
            switch (random.nextInt(6)) {
                case 0:
                    int n = random.nextInt(random.nextInt(8) == 0 ? 60 : 6);
                    text.append('t').append(n);
                    for (int j = 0; j < n; j++) {
                        now.add(new int[] {1, 0});
                    }
                    break;
                case 1:
                    text.append('b');
                    done = !now.isEmpty();
                    if (done) {
                        now.remove(now.size() - 1);
                    }
                    break;
                case 2:
                    nowWeek = random.nextInt(random.nextInt(5) == 0 ? 8 : 7);
                    done = nowWeek < 7;
                    text.append('k').append(nowWeek);
                    break;
                default:
                    int[] dawn = {random.nextInt(random.nextInt(6) == 0 ? 9 : 8), random.nextInt(10)};
                    done = dawn[0] < 8;
                    now.add(dawn);
                    text.append('d').append(dawn[0]).append(dawn[1]);
                    break;
            }
            text.append(';');
            if (fault < 0 && (!done || now.size() > 40)) {
                fault = at;
            }
        }
        int want = fault < 0 ? statements : -2000 - fault;
        if (random.nextInt(6) == 0) {
            int cut = random.nextInt(text.length());
            if (cut == 0 || text.charAt(cut - 1) != ';' || random.nextBoolean()) {
                text.setCharAt(cut, '!');
                want = -1000 - cut;
            }
        }
        C.due("wall " + text, Checks.wall(x, text.toString()), want);
        if (want > 0) {
            dawns = now;
            week = nowWeek;
        }
        return text.length() + 2;
    }

    private static int thought(List<int[]> list, int behind) {
        int w = 0;
        for (int k = 0; k <= behind; k++) {
            int figure = list.get(k)[1];
            switch (list.get(k)[0]) {
                case 0: case 2:
                    break;
                case 1: case 6:
                    w++;
                    break;
                case 3:
                    w += 2;
                    break;
                case 4:
                    w += figure;
                    break;
                case 5:
                    w = w < figure ? 0 : w - figure;
                    break;
                default:
                    w++;
                    while (w % 7 != (k + 1) % 7) {
                        w++;
                    }
                    break;
            }
        }
        return w;
    }

    private int look() {
        int size = dawns.size();
        int entries = 0;
        int missed = 0;
        for (int[] dawn : dawns) {
            entries += dawn[0] == 6 ? 1 : 0;
            missed += dawn[0] == 2 || dawn[0] == 5 ? 1 : 0;
        }
        C.due("count(0)", x.count(0), size);
        C.due("count(1)", x.count(1), thought(dawns, size - 1));
        C.due("count(2)", x.count(2), entries);
        C.due("count(3)", x.count(3), week);
        C.due("count(4)", x.count(4), missed);
        int k = random.nextInt(41);
        boolean there = k < size;
        C.due("dawn(k, 0)", x.dawn(k, 0), there ? dawns.get(k)[0] : -1);
        C.due("dawn(k, 1)", x.dawn(k, 1), there ? dawns.get(k)[1] : -1);
        C.due("dawn(k, 2)", x.dawn(k, 2), there ? thought(dawns, k) : -1);
        C.due("dawn(k, 3)", x.dawn(k, 3), there ? (k + week) % 7 : -1);
        C.due("off(k)", x.off(k), there ? k + 1 - thought(dawns, k) : -1000000001);
        int i = random.nextInt(4);
        int day = -4;
        for (int j = 0, left = i; j < size && day < 0; j++) {
            if (dawns.get(j)[0] == 6 && left-- == 0) {
                day = j;
            }
        }
        C.due("entry(i, 0)", x.entry(i, 0), day);
        C.due("entry(i, 1)", x.entry(i, 1), day < 0 ? -4 : thought(dawns, day));
        return 12;
    }
}
