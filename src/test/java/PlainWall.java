import java.math.BigInteger;
import java.util.ArrayList;
import java.util.Arrays;
import java.util.List;
import java.util.regex.Matcher;
import java.util.regex.Pattern;

/**
 * The whole face once more, told from the document's words in the slowest and plainest way: nothing is kept but
 * what came, all else is worked out anew at each call, by other ways than those of the class wherever there are any.
 */
final class PlainWall {
    private static final String STATEMENT = "(?:d[0-9][0-9];|k[0-9];|t(?:0|[1-9][0-9]?);|b;)";
    private static final Pattern BEGUN = Pattern.compile(STATEMENT + "*(?:d[0-9]?[0-9]?|k[0-9]?|t(?:0|[1-9][0-9]?)?|b)?");
    private static final Pattern WALL = Pattern.compile(STATEMENT + "+");
    private static final Pattern ONE = Pattern.compile(STATEMENT);
    private static final String NONE = "-4";

    /** What a call is refused with. */
    private static final class Refusal extends RuntimeException {
        private static final long serialVersionUID = 1;
        private final String told;

        Refusal(String told) {
            super(told, null, false, false);
            this.told = told;
        }
    }

    private record Dawn(int kind, int figure) {
    }

    private record Row(int sort, long[] values) {
    }

    /** All that there is, but SHELVES and THE IMAGE; never changed, but put in the place of another. */
    private record State(List<Dawn> dawns, int week) {
    }

    private State now = new State(List.of(), 0);
    private State image = null;
    private final Object[] shelves = new Object[8];

    /** The answer as a text; where the call throws, the exception's name. */
    String asked(String call, int[] a) {
        try {
            return told(call, a);
        } catch (Refusal refusal) {
            boolean apart = List.of("off", "chance", "odds", "lost", "joined", "rule", "guard").contains(call);
            return apart ? Long.toString(Long.parseLong(refusal.told) - 1000000000) : refusal.told;
        }
    }

    private String told(String call, int[] a) {
        return switch (call) {
            case "wall" -> wall(a[0]);
            case "dawn" -> dawn(a[0], a[1]);
            case "off" -> off(a[0]);
            case "comes" -> comes(a[0]);
            case "back" -> back();
            case "week" -> week(a[0]);
            case "entry" -> entry(a[0], a[1]);
            case "chance" -> chance(a[0], a[1], a[2], a[3]);
            case "odds" -> odds(a[0], a[1], a[2], a[3], a[4]);
            case "date" -> date(a[0], a[1], a[2], a[3]);
            case "next" -> next(a[0], a[1], a[2], a[3]);
            case "lost" -> lost(a[0], a[1], a[2], a[3], a[4]);
            case "joined" -> joined(a[0], a[1]);
            case "copied" -> copied(a[0]);
            case "events" -> events(a[0]);
            case "rule" -> rule(a[0], a[1], a[2], a[3]);
            case "bestRule" -> bestRule(a[0], a[1], a[2]);
            default -> toldOfTheRest(call, a);
        };
    }

    private String toldOfTheRest(String call, int[] a) {
        return switch (call) {
            case "moon" -> moon(a[0]);
            case "dates" -> dates(a[0], a[1], a[2], a[3], a[4]);
            case "star" -> star(a[0], a[1], a[2]);
            case "wakings" -> wakings(a[0], a[1], a[2]);
            case "guard" -> guard(a[0], a[1], a[2], a[3]);
            case "diary" -> diary(a[0]);
            case "judge" -> judge(a[0]);
            case "image" -> image();
            case "restore" -> restore();
            case "count" -> count(a[0]);
            case "keep" -> keep(a[0], a[1], a[2], a[3]);
            case "row" -> row(a[0], a[1], a[2]);
            case "put" -> put(a[0], a[1], a[2]);
            case "element" -> element(a[0], a[1]);
            case "copy" -> copy(a[0], a[1], a[2], a[3], a[4]);
            case "ease" -> ease(a[0]);
            case "toss" -> toss(a[0]);
            default -> throw new IllegalArgumentException("no call " + call);
        };
    }

    private static void wants(boolean so, int refusal) {
        if (!so) {
            throw new Refusal(Integer.toString(refusal));
        }
    }

    private static void wantsIn(long v, long least, long greatest) {
        wants(least <= v && v <= greatest, -1);
    }

    private Object held(int d) {
        wantsIn(d, 0, 7);
        wants(shelves[d] != null, -11);
        return shelves[d];
    }

    private Dawn heldDawn(int d) {
        wants(held(d) instanceof Dawn, -12);
        return (Dawn) shelves[d];
    }

    private long[] heldRow(int d, Integer... sorts) {
        wants(held(d) instanceof Row row && Arrays.asList(sorts).contains(row.sort), -12);
        return ((Row) shelves[d]).values;
    }

    // Walls.

    private static long thought(List<Dawn> dawns, int many) {
        long w = 0;
        for (int k = 0; k < many; k++) {
            long f = dawns.get(k).figure;
            long day = k + 1;
            long was = w;
            w = switch (dawns.get(k).kind) {
                case 0, 2 -> was;
                case 1, 6 -> was + 1;
                case 3 -> was + 1 + 1;
                case 4 -> was + f;
                case 5 -> was < f ? 0 : was - f;
                default -> {
                    long least = was + 1;
                    while (least % 7 != day % 7) {
                        least++;
                    }
                    yield least;
                }
            };
        }
        return w;
    }

    private String wall(int d) {
        StringBuilder signs = new StringBuilder();
        for (long v : heldRow(d, 0)) {
            signs.append((char) (v & 255));
        }
        String text = signs.toString();
        if (!WALL.matcher(text).matches()) {
            // The longest beginning that a WALL may have: the byte behind it is the first that none can go on with.
            int place = text.length();
            while (!BEGUN.matcher(text.substring(0, place)).matches()) {
                place--;
            }
            return Integer.toString(-1000 - place);
        }
        State made = now;
        int statements = 0;
        for (Matcher one = ONE.matcher(text); one.find(); statements++) {
            made = made(made, one.group());
            if (made == null) {
                return Integer.toString(-2000 - one.start());
            }
        }
        now = made;
        return Integer.toString(statements);
    }

    /** What there is behind the STATEMENT; null, if it can't be done. */
    private static State made(State was, String statement) {
        List<Dawn> dawns = new ArrayList<>(was.dawns);
        String number = statement.substring(1, statement.length() - 1);
        int week = was.week;
        switch (statement.charAt(0)) {
            case 'd':
                dawns.add(new Dawn(number.charAt(0) - '0', number.charAt(1) - '0'));
                if (number.charAt(0) > '7') {
                    return null;
                }
                break;
            case 'k':
                week = Integer.parseInt(number);
                if (week > 6) {
                    return null;
                }
                break;
            case 't':
                for (int i = Integer.parseInt(number); i > 0; i--) {
                    dawns.add(new Dawn(1, 0));
                }
                break;
            default:
                if (dawns.isEmpty()) {
                    return null;
                }
                dawns.remove(dawns.size() - 1);
                break;
        }
        return dawns.size() > 40 ? null : new State(dawns, week);
    }

    private String dawn(int dawn, int what) {
        wantsIn(dawn, 0, now.dawns.size() - 1);
        wantsIn(what, 0, 3);
        Dawn one = now.dawns.get(dawn);
        long[] told = {one.kind, one.figure, thought(now.dawns, dawn + 1), weekDay(dawn)};
        return Long.toString(told[what]);
    }

    private int weekDay(int day) {
        int weekDay = now.week;
        for (int k = 0; k < day; k++) {
            weekDay = weekDay == 6 ? 0 : weekDay + 1;
        }
        return weekDay;
    }

    private String off(int dawn) {
        wantsIn(dawn, 0, now.dawns.size() - 1);
        return Long.toString(dawn + 1 - thought(now.dawns, dawn + 1));
    }

    private String comes(int d) {
        Dawn dawn = heldDawn(d);
        wants(now.dawns.size() < 40, -2);
        List<Dawn> dawns = new ArrayList<>(now.dawns);
        dawns.add(dawn);
        now = new State(dawns, now.week);
        return count(1);
    }

    private String back() {
        wants(!now.dawns.isEmpty(), -3);
        now = made(now, "b;");
        return count(0);
    }

    private String week(int n) {
        wantsIn(n, 0, 6);
        int was = now.week;
        now = new State(now.dawns, n);
        return Integer.toString(was);
    }

    private List<Integer> daysOf(int... kinds) {
        List<Integer> days = new ArrayList<>();
        for (int k = 0; k < now.dawns.size(); k++) {
            for (int kind : kinds) {
                if (now.dawns.get(k).kind == kind) {
                    days.add(k);
                }
            }
        }
        return days;
    }

    private String entry(int i, int what) {
        wants(i >= 0, -1);
        wantsIn(what, 0, 1);
        List<Integer> entries = daysOf(6);
        if (i >= entries.size()) {
            return NONE;
        }
        int day = entries.get(i);
        return Long.toString(what == 0 ? day : thought(now.dawns, day + 1));
    }

    // What is likely.

    private static void wantsLikely(int md, int s) {
        wantsIn(md, 0, 99);
        wantsIn(md / 10 + md % 10, 0, 10);
        wantsIn(s, 0, 24);
    }

    /** In how many of 10 ways a day s strokes come on t days; on the day lost (0: on none) there is none. */
    private static BigInteger ways(int md, int t, int s, int lost) {
        BigInteger[] by = new BigInteger[2 * t + 1];
        Arrays.fill(by, BigInteger.ZERO);
        by[0] = BigInteger.ONE;
        for (int day = 1; day <= t; day++) {
            BigInteger[] then = new BigInteger[by.length];
            Arrays.fill(then, BigInteger.ZERO);
            int[] tenths = {md / 10, 10 - md / 10 - md % 10, md % 10};
            for (int had = 0; had < by.length; had++) {
                for (int more = 0; more <= (day == lost ? 0 : 2) && had + more < by.length; more++) {
                    then[had + more] = then[had + more].add(by[had].multiply(BigInteger.valueOf(tenths[more])));
                }
            }
            by = then;
        }
        return s < by.length ? by[s] : BigInteger.ZERO;
    }

    private static String fraction(BigInteger above, BigInteger below, int part) {
        if (above.signum() == 0) {
            return Integer.toString(part);
        }
        BigInteger by = above.gcd(below);
        return (part == 0 ? above : below).divide(by).toString();
    }

    private String chance(int md, int t, int s, int part) {
        wantsLikely(md, s);
        wantsIn(t, 0, 12);
        wantsIn(part, 0, 1);
        return fraction(ways(md, t, s, 0), BigInteger.TEN.pow(t), part);
    }

    private BigInteger[] weights(int md, int s, int e) {
        wantsLikely(md, s);
        long[] signs = heldRow(e, 0);
        wants(signs.length == 0 || signs.length == 3 || signs.length == 6, -13);
        for (int i = 0; i < signs.length; i += 3) {
            wants(2 <= signs[i] && signs[i] <= 9, -13);
            wants(0 <= signs[i + 1] && signs[i + 1] < signs[i], -13);
            wants(0 <= signs[i + 2] && signs[i + 2] <= 9, -13);
        }
        BigInteger[] weights = new BigInteger[13];
        for (int t = 0; t <= 12; t++) {
            weights[t] = ways(md, t, s, 0).multiply(BigInteger.TEN.pow(12 - t));
            for (int i = 0; i < signs.length; i += 3) {
                long tenths = t % signs[i] == signs[i + 1] ? 10 - signs[i + 2] : signs[i + 2];
                weights[t] = weights[t].multiply(BigInteger.valueOf(tenths));
            }
        }
        return weights;
    }

    private static List<Integer> likely(BigInteger[] weights) {
        List<Integer> days = new ArrayList<>();
        for (int t = 0; t < weights.length; t++) {
            if (weights[t].signum() != 0) {
                days.add(t);
            }
        }
        return days;
    }

    private String odds(int md, int t, int s, int e, int part) {
        wantsIn(t, 0, 12);
        wantsIn(part, 0, 1);
        BigInteger[] weights = weights(md, s, e);
        return fraction(weights[t], Arrays.stream(weights).reduce(BigInteger.ZERO, BigInteger::add), part);
    }

    private String date(int md, int s, int e, int what) {
        wantsIn(what, 0, 2);
        BigInteger[] weights = weights(md, s, e);
        List<Integer> days = likely(weights);
        if (days.isEmpty()) {
            return NONE;
        }
        int best = days.get(0);
        for (int t : days) {
            best = weights[t].compareTo(weights[best]) > 0 ? t : best;
        }
        int[] told = {best, days.get(0), days.get(days.size() - 1)};
        return Integer.toString(told[what]);
    }

    private String next(int md, int s, int e, int what) {
        wantsIn(what, 0, 1);
        List<Integer> days = likely(weights(md, s, e));
        // All numbers in their order, and all M in theirs: the first that fits.
        for (int number = 1; number <= days.size(); number++) {
            for (int m = 2; m <= 9; m++) {
                long most = 0;
                for (int rest = 0; rest < m; rest++) {
                    int by = m;
                    int left = rest;
                    most = Math.max(most, days.stream().filter(t -> t % by == left).count());
                }
                if (most == number) {
                    return Integer.toString(what == 0 ? m : number);
                }
            }
        }
        return NONE;
    }

    private String lost(int md, int t, int s, int i, int part) {
        wantsLikely(md, s);
        wantsIn(t, 1, 12);
        wantsIn(i, 1, t);
        wantsIn(part, 0, 1);
        return fraction(ways(md, t, s, i), ways(md, t, s, 0), part);
    }

    // Knocks, events, rules.

    private long[] knocks(int d) {
        long[] knocks = heldRow(d, 2);
        wants(knocks.length >= 1 && knocks.length <= 8, -13);
        for (long knock : knocks) {
            wants(-9999 <= knock && knock <= 9999, -13);
        }
        return knocks;
    }

    private String joined(int d, int what) {
        wantsIn(what, 0, 1);
        long[] knocks = knocks(d);
        long best = 0;
        long leastSum = Long.MAX_VALUE;
        for (long number = Arrays.stream(knocks).min().orElse(0); number <= 9999; number++) {
            long sum = 0;
            for (long knock : knocks) {
                sum += knock < number ? number - knock : knock - number;
            }
            if (sum < leastSum) {
                best = number;
                leastSum = sum;
            }
        }
        return Long.toString(what == 0 ? best : leastSum);
    }

    private String copied(int d) {
        long[] knocks = knocks(d).clone();
        Arrays.sort(knocks);
        int pairs = 0;
        int alike = 0;
        for (int i = 1; i < knocks.length; i++) {
            alike = knocks[i] == knocks[i - 1] ? alike + 1 : 0;
            pairs += alike;
        }
        return Integer.toString(pairs);
    }

    private String events(int d) {
        long[] told = heldRow(d, 2);
        wants(told.length % 2 == 0, -13);
        for (int i = 0; i < told.length; i += 2) {
            wants(told[i + 1] >= 1 && told[i + 1] <= now.dawns.size(), -13);
        }
        for (int i = 0; i < told.length; i += 2) {
            if (thought(now.dawns, (int) told[i + 1]) != told[i]) {
                return Integer.toString(i);
            }
        }
        return NONE;
    }

    private static int marks(BigInteger seed, int md) {
        int draw = seed.clearBit(31).shiftRight(16).mod(BigInteger.TEN).intValue();
        return draw < md / 10 ? 0 : draw < md / 10 + md % 10 ? 2 : 1;
    }

    private static long far(int rule, int md, int n, int z) {
        BigInteger round = BigInteger.ONE.shiftLeft(32);
        BigInteger seed = BigInteger.valueOf(z).mod(round);
        long count = 0;
        for (int number = 0; number < n; number++) {
            seed = seed.multiply(BigInteger.valueOf(1103515245)).add(BigInteger.valueOf(12345)).mod(round);
            int light = marks(seed, md);
            seed = seed.multiply(BigInteger.valueOf(1103515245)).add(BigInteger.valueOf(12345)).mod(round);
            int bread = marks(seed, md);
            boolean isBreads = rule == 1 && bread > light || rule == 3 && bread < light;
            count += isBreads ? bread : light;
            while (rule == 2 && (number + 1) % 7 == 0 && count % 7 != 0) {
                count++;
            }
        }
        return n - count;
    }

    private static void wantsRule(int md, int n) {
        wantsLikely(md, 0);
        wantsIn(n, 1, 60);
    }

    private static String rule(int rule, int md, int n, int z) {
        wantsIn(rule, 0, 3);
        wantsRule(md, n);
        return Long.toString(far(rule, md, n, z));
    }

    private static String bestRule(int md, int n, int z) {
        wantsRule(md, n);
        for (int by = 0;; by++) {
            for (int rule = 0; rule < 4; rule++) {
                long far = far(rule, md, n, z);
                if (far == by || far == -by) {
                    return Integer.toString(rule);
                }
            }
        }
    }

    // Moons, stars, wakings, guards.

    private static int moonOn(int day) {
        int moon = 7;
        for (int k = 0; k < day; k++) {
            moon = (moon + 11) % 30;
        }
        return moon;
    }

    private static String moon(int day) {
        wantsIn(day, 0, 364);
        return Integer.toString(moonOn(day));
    }

    private static String manyOrFirst(List<Integer> days, int what) {
        if (what == 0) {
            return Integer.toString(days.size());
        }
        return days.isEmpty() ? NONE : Integer.toString(days.get(0));
    }

    private static String dates(int from, int to, int moon, int e, int what) {
        wantsIn(from, 0, 364);
        wantsIn(to, 0, 364);
        wantsIn(moon, 0, 29);
        wantsIn(e, 0, 14);
        wantsIn(what, 0, 1);
        List<Integer> days = new ArrayList<>();
        for (int day = from; day <= to; day++) {
            for (int step = -e; step <= e; step++) {
                if ((moonOn(day) + step + 30) % 30 == moon) {
                    days.add(day);
                }
            }
        }
        return manyOrFirst(days, what);
    }

    private static String star(int minute, int e, int what) {
        wantsIn(minute, 0, 1439);
        wantsIn(e, 0, 99);
        wantsIn(what, 0, 1);
        List<Integer> days = new ArrayList<>();
        int at = 1439;
        for (int x = 0; x <= 364; x++) {
            if (minute - e <= at && at <= minute + e) {
                days.add(x);
            }
            at -= 4;
            at = at < 0 ? at + 1440 : at;
        }
        return manyOrFirst(days, what);
    }

    private static String wakings(int n, int h, int what) {
        wantsIn(n, 0, 999);
        wantsIn(h, 1, 99);
        wantsIn(what, 0, 1);
        int days = 0;
        int hours = 0;
        for (int waking = 0; waking < n; waking++) {
            for (hours += h; hours >= 24; hours -= 24) {
                days++;
            }
        }
        return Integer.toString(what == 0 ? days : hours);
    }

    private static String guard(int k, int r, int g, int part) {
        wantsIn(k, 0, 9);
        wantsIn(r, 0, k);
        wantsIn(g, 0, 10);
        wantsIn(part, 0, 1);
        BigInteger first = BigInteger.valueOf(5).pow(k);
        BigInteger other = BigInteger.valueOf(g).pow(r).multiply(BigInteger.valueOf(10 - g).pow(k - r));
        return fraction(first, first.add(other), part);
    }

    private String diary(int d) {
        long[] told = heldRow(d, 0);
        wants(told.length % 2 == 0, -13);
        for (int i = 0; i < told.length; i += 2) {
            wants(0 <= told[i] && told[i] <= 99 && 0 <= told[i + 1] && told[i + 1] <= 6, -13);
        }
        for (int i = 0; i < told.length; i += 2) {
            boolean isLater = i == 0 || told[i] > told[i - 2];
            if (!isLater || told[i + 1] != weekDay((int) told[i])) {
                return Integer.toString(i);
            }
        }
        return NONE;
    }

    private String judge(int d) {
        long[] told = heldRow(d, 0, 1, 2);
        long skipped = new long[] {-128, -32768, Integer.MIN_VALUE}[((Row) shelves[d]).sort];
        for (int i = 0; i < told.length; i++) {
            if (i == now.dawns.size()) {
                return Integer.toString(i);
            }
            if (told[i] != skipped && told[i] != thought(now.dawns, i + 1)) {
                return Integer.toString(i);
            }
        }
        return told.length < now.dawns.size() ? Integer.toString(told.length) : NONE;
    }

    // The image, what is told.

    private String image() {
        image = now;
        return count(0);
    }

    private String restore() {
        wants(image != null, -3);
        now = image;
        return count(0);
    }

    private String count(int what) {
        wantsIn(what, 0, 4);
        int dawns = now.dawns.size();
        long[] told = {dawns, thought(now.dawns, dawns), daysOf(6).size(), now.week, daysOf(2, 5).size()};
        return Long.toString(told[what]);
    }

    // Shelves.

    private String keep(int d, int what, int k, int figure) {
        wantsIn(d, 0, 7);
        wantsIn(what, 0, 1);
        if (what == 1) {
            wantsIn(k, 0, 7);
            wantsIn(figure, 0, 9);
        }
        shelves[d] = what == 0 ? null : new Dawn(k, figure);
        return "0";
    }

    private String row(int d, int sort, int n) {
        wantsIn(d, 0, 7);
        wantsIn(sort, 0, 2);
        wants(n <= 100, -1);
        wants(n >= 0, -14);
        shelves[d] = new Row(sort, new long[n]);
        return "0";
    }

    private String put(int d, int i, int v) {
        long[] values = heldRow(d, 0, 1, 2);
        wants(0 <= i && i < values.length, -13);
        long round = new long[] {256, 65536, 4294967296L}[((Row) shelves[d]).sort];
        long rest = Math.floorMod((long) v, round);
        values[i] = rest < round / 2 ? rest : rest - round;
        return "0";
    }

    private String element(int d, int i) {
        if (d < 0 || d > 7) {
            return Checks.ILLEGAL_ARGUMENT;
        }
        boolean isThere = shelves[d] instanceof Row row && 0 <= i && i < row.values.length;
        return isThere ? Long.toString(((Row) shelves[d]).values[i]) : Checks.ILLEGAL_STATE;
    }

    private String copy(int d, int i, int e, int j, int n) {
        wantsIn(d, 0, 7);
        wantsIn(e, 0, 7);
        held(d);
        held(e);
        long[] from = heldRow(d, 0, 1, 2).clone();
        long[] to = heldRow(e, ((Row) shelves[d]).sort);
        wants(n >= 0 && i >= 0 && j >= 0, -13);
        wants((long) i + n <= from.length && (long) j + n <= to.length, -13);
        for (int at = 0; at < n; at++) {
            to[j + at] = from[i + at];
        }
        return Integer.toString(n);
    }

    private static long easeOf(Dawn dawn) {
        long f = dawn.figure;
        return switch (dawn.kind) {
            case 0 -> 1;
            case 1 -> 3;
            case 2 -> 0;
            case 3 -> 6;
            case 4 -> f;
            case 5 -> -f;
            case 6 -> 3 + f;
            default -> 9;
        };
    }

    private String ease(int d) {
        return Long.toString(easeOf(heldDawn(d)));
    }

    private String toss(int d) {
        Dawn dawn = heldDawn(d);
        wants(dawn.kind != 4 && dawn.figure != 0, -15);
        return Long.toString(dawn.kind == 7 ? 200 + easeOf(dawn) : dawn.kind == 5 ? 100 + dawn.figure : dawn.figure);
    }
}
