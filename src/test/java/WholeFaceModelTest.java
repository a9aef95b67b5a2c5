import java.lang.reflect.InvocationTargetException;
import java.lang.reflect.Method;
import java.util.ArrayList;
import java.util.Arrays;
import java.util.List;
import java.util.Random;
import java.util.TreeMap;
import java.util.TreeSet;

/** Promises 1 to 35: long runs of calls of the whole face, each answer beside that of PlainWall. */
public final class WholeFaceModelTest {
    private static final Checks C = new Checks();
    private static final int RUNS = 600;
    private static final int CALLS = 512;
    private static final int[] STRANGE = {-1, 8, 41, 100, 101, 365, 1440, 65536, Checks.MIN, Checks.MAX};

    /** The calls, and behind each a letter or digit for each argument: see number. */
    private static final String[] FACE = {
        "wall d", "wall d", "dawn k4", "off k", "comes d", "back", "week 7", "entry 32", "chance mts2", "odds mtsd2",
        "date msd3", "next msd2", "lost mtst2", "joined d2", "copied d", "events d", "rule 4mnz", "bestRule mnz",
        "moon y", "dates yyMe2", "star SH2", "wakings nh2", "guard aag2", "diary d", "judge d", "judge d", "image",
        "restore", "count 5", "keep d28f", "row d3n", "put div", "put div", "element di", "copy dididi", "ease d",
        "toss d"};

    /** The refusals that each call is told with: all of them must have come, or the runs are too tame. */
    private static final String[] REFUSALS = {
        "wall -1 -11 -12", "dawn -1", "off -1000000001", "comes -1 -11 -12 -2", "back -3", "week -1", "entry -1 -4",
        "chance -1000000001", "odds -1000000001 -1000000011 -1000000012 -1000000013", "date -1 -11 -12 -13 -4",
        "next -1 -11 -12 -13 -4", "lost -1000000001", "joined -1000000001 -1000000011 -1000000012 -1000000013",
        "copied -1 -11 -12 -13", "events -1 -11 -12 -13 -4", "rule -1000000001", "bestRule -1", "moon -1",
        "dates -1 -4", "star -1 -4", "wakings -1", "guard -1000000001", "diary -1 -11 -12 -13 -4",
        "judge -1 -11 -12 -4", "restore -3", "count -1", "keep -1", "row -1 -14", "put -1 -11 -12 -13",
        "element IllegalArgumentException IllegalStateException", "copy -1 -11 -12 -13", "ease -1 -11 -12",
        "toss -1 -11 -12 -15"};

    private static final TreeMap<String, TreeSet<String>> ANSWERS = new TreeMap<>();

    private final Random random;
    private final StrokesOnWall x = new StrokesOnWall();
    private final PlainWall plain = new PlainWall();
    private final List<String> asked = new ArrayList<>();
    private int wrong = 0;

    private WholeFaceModelTest(int seed) {
        random = new Random(seed);
    }

    public static void main(String[] args) throws Exception {
        for (int seed = 0; seed < RUNS; seed++) {
            new WholeFaceModelTest(seed).run();
        }
        for (String told : REFUSALS) {
            String[] words = told.split(" ");
            for (int i = 1; i < words.length; i++) {
                boolean came = ANSWERS.get(words[0]).contains(words[i]);
                C.dueText(words[0] + " answers " + words[i], came ? "so" : "never", "so");
            }
        }
        C.end();
    }

    private void run() throws Exception {
        while (asked.size() < CALLS && wrong == 0) {
            switch (random.nextInt(16)) {
                case 0:
                    text();
                    break;
                case 1:
                    filledRow();
                    break;
                case 2:
                    dawnsCome();
                    break;
                default:
                    String[] told = FACE[random.nextInt(FACE.length)].split(" ");
                    ask(told[0], numbers(told.length > 1 ? told[1] : ""));
                    break;
            }
        }
    }

    private int[] numbers(String kinds) {
        int[] numbers = new int[kinds.equals("dididi") ? 5 : kinds.length()];
        for (int i = 0; i < numbers.length; i++) {
            boolean isStrange = random.nextInt(40) == 0;
            numbers[i] = isStrange ? STRANGE[random.nextInt(STRANGE.length)] : number(kinds.charAt(i));
        }
        if (kinds.equals("dididi")) {
            numbers[4] = random.nextInt(5) - 1 + (random.nextInt(20) == 0 ? Checks.MAX - 3 : 0);
        }
        return numbers;
    }

    /** A number of the kind: mostly one that is taken, now and then the next one to that. */
    private int number(char kind) {
        return switch (kind) {
            case 'd' -> random.nextInt(6);
            case 'k' -> random.nextInt(random.nextBoolean() ? 8 : 41);
            case 'm' -> random.nextInt(12) * (random.nextInt(3) == 0 ? 1 : 9);
            case 't' -> random.nextInt(14);
            case 's' -> random.nextInt(random.nextBoolean() ? 8 : 26);
            case 'n' -> random.nextInt(random.nextBoolean() ? 7 : 62) - (random.nextInt(8) == 0 ? 2 : 0);
            case 'z', 'v' -> random.nextInt(3) == 0 ? random.nextInt() : random.nextInt(300) - 150;
            case 'y' -> random.nextInt(366);
            case 'M' -> random.nextInt(31);
            case 'e' -> random.nextInt(random.nextBoolean() ? 3 : 16);
            case 'S' -> random.nextInt(1441);
            case 'H' -> random.nextInt(random.nextBoolean() ? 2 : 101);
            case 'h' -> random.nextInt(101);
            case 'a' -> random.nextInt(11);
            case 'g' -> random.nextInt(12);
            case 'f' -> random.nextInt(11);
            case 'i' -> random.nextInt(random.nextInt(4) == 0 ? 101 : 6);
            default -> random.nextInt(kind - '0' + (random.nextInt(10) == 0 ? 1 : 0));
        };
    }

    private String ask(String call, int... numbers) throws Exception {
        if (asked.size() >= CALLS || wrong > 0) {
            return "";
        }
        String told = call + Arrays.toString(numbers);
        asked.add(told);
        String due = plain.asked(call, numbers);
        String got = answer(call, numbers);
        ANSWERS.computeIfAbsent(call, name -> new TreeSet<>()).add(got);
        if (!got.equals(due)) {
            wrong++;
            C.begin(asked + ": ");
        }
        C.dueText(told, got, due);
        return got;
    }

    private String answer(String call, int[] numbers) throws Exception {
        Class<?>[] types = new Class<?>[numbers.length];
        Arrays.fill(types, int.class);
        Object[] given = new Object[numbers.length];
        for (int i = 0; i < given.length; i++) {
            given[i] = numbers[i];
        }
        Method method = StrokesOnWall.class.getMethod(call, types);
        try {
            return method.invoke(x, given).toString();
        } catch (InvocationTargetException thrown) {
            return thrown.getCause().getClass().getSimpleName();
        }
    }

    /** A text of STATEMENTS comes to a SHELF and is read: many are WALLS, many have a FAULT. */
    private void text() throws Exception {
        StringBuilder text = new StringBuilder();
        int statements = random.nextInt(6);
        for (int i = 0; i < statements; i++) {
            text.append(statement());
        }
        if (text.length() > 0 && random.nextInt(4) == 0) {
            String signs = "dktb0123456789;:/ " + (char) 0 + (char) 228;
            text.setCharAt(random.nextInt(text.length()), signs.charAt(random.nextInt(signs.length())));
        }
        if (random.nextInt(6) == 0) {
            text.setLength(random.nextInt(text.length() + 1));
        }
        int d = random.nextInt(6);
        ask("row", d, 0, text.length());
        for (int i = 0; i < text.length(); i++) {
            ask("put", d, i, text.charAt(i));
        }
        ask("wall", d);
    }

    private String statement() {
        boolean isWide = random.nextInt(12) == 0;
        switch (random.nextInt(isWide ? 5 : 6)) {
            case 0:
                return "b;";
            case 1:
                return "k" + random.nextInt(isWide ? 10 : 7) + ";";
            case 2:
                // Many at once, so that walls are full now and then.
                return "t" + random.nextInt(isWide ? 100 : random.nextInt(4) == 0 ? 41 : 6) + ";";
            default:
                return "d" + random.nextInt(isWide ? 10 : 8) + random.nextInt(10) + ";";
        }
    }

    /** A DAWN comes some times, and then what is told of the latest one. */
    private void dawnsCome() throws Exception {
        int d = random.nextInt(6);
        ask("keep", d, 1, random.nextInt(8), random.nextInt(10));
        for (int times = random.nextInt(5); times >= 0; times--) {
            ask("comes", d);
        }
        ask("dawn", dawns() - 1, random.nextInt(4));
        ask("off", dawns() - 1);
        ask(random.nextBoolean() ? "ease" : "toss", d);
    }

    /** A ROW that is well for one of the calls that read one comes to a SHELF, now and then with a wrong element. */
    private void filledRow() throws Exception {
        int d = random.nextInt(6);
        int[] values;
        int sort = 0;
        switch (random.nextInt(5)) {
            case 0:
                values = signs();
                break;
            case 1:
                values = numbers("vvvvvvvv".substring(random.nextInt(9)));
                sort = 2;
                break;
            case 2:
                values = toldEvents();
                sort = 2;
                break;
            case 3:
                values = toldDays();
                break;
            default:
                values = thoughts();
                sort = random.nextInt(3);
                break;
        }
        if (values.length > 0 && random.nextInt(4) == 0) {
            values[random.nextInt(values.length)] = STRANGE[random.nextInt(STRANGE.length)];
        }
        ask("row", d, sort, values.length);
        for (int i = 0; i < values.length; i++) {
            ask("put", d, i, values[i]);
        }
        readers(d, sort);
    }

    private void readers(int d, int sort) throws Exception {
        int m = number('m');
        int s = random.nextInt(14);
        if (sort == 2) {
            ask("joined", d, random.nextInt(2));
            ask("copied", d);
            ask("events", d);
        } else {
            ask("odds", m, random.nextInt(13), s, d, random.nextInt(2));
            ask("date", m, s, d, random.nextInt(3));
            ask("next", m, s, d, random.nextInt(2));
            ask("diary", d);
        }
        ask("judge", d);
    }

    private int[] signs() {
        int[] signs = new int[3 * random.nextInt(3)];
        for (int i = 0; i < signs.length; i += 3) {
            signs[i] = 2 + random.nextInt(8);
            signs[i + 1] = random.nextInt(signs[i]);
            signs[i + 2] = random.nextBoolean() ? 0 : random.nextInt(10);
        }
        return signs;
    }

    private int dawns() {
        return Integer.parseInt(plain.asked("count", new int[] {0}));
    }

    private int thought(int dawn) {
        return Integer.parseInt(plain.asked("dawn", new int[] {dawn, 2}));
    }

    private int[] toldEvents() {
        int dawns = dawns();
        int[] told = new int[dawns == 0 ? 0 : 2 * random.nextInt(5)];
        for (int i = 0; i < told.length; i += 2) {
            told[i + 1] = 1 + random.nextInt(dawns);
            told[i] = thought(told[i + 1] - 1) + (random.nextInt(6) == 0 ? 1 : 0);
        }
        return told;
    }

    private int[] toldDays() {
        int week = Integer.parseInt(plain.asked("count", new int[] {3}));
        int[] told = new int[2 * random.nextInt(5)];
        int day = 0;
        for (int i = 0; i < told.length; i += 2) {
            day += random.nextInt(8);
            told[i] = day;
            told[i + 1] = (day + week + (random.nextInt(8) == 0 ? 1 : 0)) % 7;
        }
        return told;
    }

    private int[] thoughts() {
        int dawns = dawns();
        int[] told = new int[Math.max(0, dawns + (random.nextInt(3) == 0 ? random.nextInt(5) - 2 : 0))];
        for (int i = 0; i < told.length; i++) {
            told[i] = i < dawns ? thought(i) : 0;
            told[i] = random.nextInt(12) == 0 ? new int[] {-128, -32768, Checks.MIN}[random.nextInt(3)] : told[i];
        }
        return told;
    }
}
