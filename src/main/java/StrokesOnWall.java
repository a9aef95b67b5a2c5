/**
 * Strokes on a wall: what is counted of the days, what the days truly were, and what the date may be.
 * Words in capitals are those of ../shared/DOC.md.
 */
public final class StrokesOnWall {
    private static final int WELL = 0;
    private static final int NO_SUCH = -1;
    private static final int NO_ROOM = -2;
    private static final int NOT_NOW = -3;
    private static final int NONE = -4;
    private static final int NOTHING_HELD = -11;
    private static final int OTHER_KIND = -12;
    private static final int NO_PLACE = -13;
    private static final int BELOW_ZERO = -14;
    private static final int NO_FAILURE = -15;

    /** Refusals of calls that may answer numbers below 0, or longs, are so much less. */
    private static final int APART = 1000000000;
    private static final int NO_SUCH_APART = NO_SUCH - APART;

    private static final int MOST_DAWNS = 40;
    private static final int STROKE = 0;
    private static final int TRUE = 1;
    private static final int MISSED = 2;
    private static final int DOUBLED = 3;
    private static final int GUESSED = 4;
    private static final int SCRAPED = 5;
    private static final int BOUND = 6;
    private static final int MENDED = 7;
    private static final int MOST_FIGURE = 9;
    private static final int WEEK_DAYS = 7;
    private static final int SHELVES = 8;
    private static final int MOST_ELEMENTS = 100;
    private static final int BYTES = 0;
    private static final int SHORTS = 1;
    private static final int INTS = 2;
    private static final int ANY_SORT = 3;
    private static final int MOST_DAYS = 12;
    private static final int MOST_STROKES = 24;
    private static final int LAST_YEAR_DAY = 364;
    private static final int MINUTES = 1440;
    private static final int LAST_RULE = 3;
    private static final int WITHOUT_SIGN = 0x7fffffff;

    private final Wall standing = new Wall();
    private final Wall trial = new Wall();
    private final Wall kept = new Wall();
    private boolean imageTaken = false;
    private final Likelihood likelihood = new Likelihood();
    private final Shelf[] shelves = new Shelf[SHELVES];

    public StrokesOnWall() {
        for (int d = 0; d < SHELVES; d++) {
            shelves[d] = new Shelf();
        }
    }

    // ---- walls

    public int wall(int d) {
        int refusal = rowRefusal(d, BYTES);
        if (refusal != WELL) {
            return refusal;
        }
        WallReader reader = new WallReader(shelves[d]);
        int answer = reader.passAll();
        if (answer < 0) {
            return answer;
        }
        trial.becomes(standing);
        int undone = reader.firstUndone(trial);
        if (undone >= 0) {
            return -2000 - undone;
        }
        standing.becomes(trial);
        return answer;
    }

    public int dawn(int dawn, int what) {
        if (!standing.has(dawn)) {
            return NO_SUCH;
        }
        switch (what) {
            case 0:
                return standing.kindOf(dawn);
            case 1:
                return standing.figureOf(dawn);
            case 2:
                return standing.thoughtBehind(dawn);
            case 3:
                return standing.weekDayOf(dawn);
            default:
                return NO_SUCH;
        }
    }

    public int off(int dawn) {
        if (!standing.has(dawn)) {
            return NO_SUCH_APART;
        }
        return dawn + 1 - standing.thoughtBehind(dawn);
    }

    public int comes(int d) {
        int refusal = dawnRefusal(d);
        if (refusal != WELL) {
            return refusal;
        }
        if (!standing.add(shelves[d].heldDawn())) {
            return NO_ROOM;
        }
        return standing.thoughtNow();
    }

    public int back() {
        return standing.dropLatest() ? standing.size() : NOT_NOW;
    }

    public int week(int n) {
        int was = standing.weekOfFirst();
        return standing.setWeek(n) ? was : NO_SUCH;
    }

    public int entry(int i, int what) {
        if (i < 0 || !isHalf(what)) {
            return NO_SUCH;
        }
        int day = standing.dayOfEntry(i);
        if (day < 0) {
            return NONE;
        }
        return what == 0 ? day : standing.thoughtBehind(day);
    }

    // ---- what is likely

    public long chance(int md, int t, int s, int part) {
        if (!areTenths(md) || !isIn(t, 0, MOST_DAYS) || !isIn(s, 0, MOST_STROKES) || !isHalf(part)) {
            return NO_SUCH_APART;
        }
        return inLeastTerms(likelihood.waysTo(md, t, s), power(10, t), part);
    }

    public long odds(int md, int t, int s, int e, int part) {
        if (!isIn(t, 0, MOST_DAYS) || !isHalf(part)) {
            return NO_SUCH_APART;
        }
        int refusal = weigh(md, s, e);
        if (refusal != WELL) {
            return refusal - APART;
        }
        return inLeastTerms(likelihood.weightOf(t), likelihood.weightOfAll(), part);
    }

    public int date(int md, int s, int e, int what) {
        if (!isIn(what, 0, 2)) {
            return NO_SUCH;
        }
        int refusal = weigh(md, s, e);
        if (refusal != WELL) {
            return refusal;
        }
        if (what == 0) {
            return likelihood.likeliest();
        }
        return what == 1 ? likelihood.least() : likelihood.greatest();
    }

    public int next(int md, int s, int e, int what) {
        if (!isHalf(what)) {
            return NO_SUCH;
        }
        int refusal = weigh(md, s, e);
        if (refusal != WELL) {
            return refusal;
        }
        if (likelihood.least() == NONE) {
            return NONE;
        }
        int best = likelihood.bestDivisor();
        return what == 0 ? best : likelihood.mostWithOneRest(best);
    }

    public long lost(int md, int t, int s, int i, int part) {
        if (!areTenths(md) || !isIn(t, 1, MOST_DAYS) || !isIn(s, 0, MOST_STROKES)) {
            return NO_SUCH_APART;
        }
        if (!isIn(i, 1, t) || !isHalf(part)) {
            return NO_SUCH_APART;
        }
        // All days are alike, so it does not matter which of them is the one without a stroke.
        long above = md / 10 * likelihood.waysTo(md, t - 1, s);
        return inLeastTerms(above, likelihood.waysTo(md, t, s), part);
    }

    // ---- knocks, events, rules

    public int joined(int d, int what) {
        if (!isHalf(what)) {
            return NO_SUCH_APART;
        }
        int refusal = knocksRefusal(d);
        if (refusal != WELL) {
            return refusal - APART;
        }
        int number = joiningNumber(shelves[d]);
        return what == 0 ? number : sumOfDifferences(shelves[d], number);
    }

    public int copied(int d) {
        int refusal = knocksRefusal(d);
        return refusal != WELL ? refusal : pairsAlike(shelves[d]);
    }

    public int events(int d) {
        int refusal = rowRefusal(d, INTS);
        if (refusal != WELL) {
            return refusal;
        }
        return areEvents(shelves[d]) ? firstFalseEvent(shelves[d]) : NO_PLACE;
    }

    public int rule(int rule, int md, int n, int z) {
        if (!isIn(rule, 0, LAST_RULE) || !areTenths(md) || !isIn(n, 1, 60)) {
            return NO_SUCH_APART;
        }
        return offByRule(rule, md, n, z);
    }

    public int bestRule(int md, int n, int z) {
        if (!areTenths(md) || !isIn(n, 1, 60)) {
            return NO_SUCH;
        }
        int best = 0;
        for (int rule = 1; rule <= LAST_RULE; rule++) {
            if (Math.abs(offByRule(rule, md, n, z)) < Math.abs(offByRule(best, md, n, z))) {
                best = rule;
            }
        }
        return best;
    }

    // ---- moons, stars, wakings, guards

    public int moon(int day) {
        return isIn(day, 0, LAST_YEAR_DAY) ? moonOf(day) : NO_SUCH;
    }

    public int dates(int from, int to, int moon, int e, int what) {
        if (!isIn(from, 0, LAST_YEAR_DAY) || !isIn(to, 0, LAST_YEAR_DAY) || !isIn(moon, 0, 29)) {
            return NO_SUCH;
        }
        if (!isIn(e, 0, 14) || !isHalf(what)) {
            return NO_SUCH;
        }
        int many = 0;
        int first = NONE;
        for (int day = from; day <= to; day++) {
            if (isMoonNear(day, moon, e)) {
                first = many == 0 ? day : first;
                many++;
            }
        }
        return what == 0 ? many : first;
    }

    public int star(int minute, int e, int what) {
        if (!isIn(minute, 0, MINUTES - 1) || !isIn(e, 0, 99) || !isHalf(what)) {
            return NO_SUCH;
        }
        int many = 0;
        int first = NONE;
        for (int day = 0; day <= LAST_YEAR_DAY; day++) {
            if (Math.abs(minuteOfStar(day) - minute) <= e) {
                first = many == 0 ? day : first;
                many++;
            }
        }
        return what == 0 ? many : first;
    }

    public int wakings(int n, int h, int what) {
        if (!isIn(n, 0, 999) || !isIn(h, 1, 99) || !isHalf(what)) {
            return NO_SUCH;
        }
        return what == 0 ? n * h / 24 : n * h % 24;
    }

    public long guard(int k, int r, int g, int part) {
        if (!isIn(k, 0, 9) || !isIn(r, 0, k) || !isIn(g, 0, 10) || !isHalf(part)) {
            return NO_SUCH_APART;
        }
        long first = power(5, k);
        long second = power(g, r) * power(10 - g, k - r);
        return inLeastTerms(first, first + second, part);
    }

    public int diary(int d) {
        int refusal = rowRefusal(d, BYTES);
        if (refusal != WELL) {
            return refusal;
        }
        return isDiary(shelves[d]) ? firstFalseDay(shelves[d]) : NO_PLACE;
    }

    public int judge(int d) {
        int refusal = rowRefusal(d, ANY_SORT);
        return refusal != WELL ? refusal : firstMisjudged(shelves[d]);
    }

    // ---- the image, what is told

    public int image() {
        kept.becomes(standing);
        imageTaken = true;
        return kept.size();
    }

    public int restore() {
        if (!imageTaken) {
            return NOT_NOW;
        }
        standing.becomes(kept);
        return standing.size();
    }

    public int count(int what) {
        switch (what) {
            case 0:
                return standing.size();
            case 1:
                return standing.thoughtNow();
            case 2:
                return standing.entries();
            case 3:
                return standing.weekOfFirst();
            case 4:
                return standing.missed();
            default:
                return NO_SUCH;
        }
    }

    // ---- shelves

    public int keep(int d, int what, int k, int figure) {
        if (!isShelf(d) || !isHalf(what)) {
            return NO_SUCH;
        }
        if (what == 0) {
            shelves[d].empty();
            return 0;
        }
        if (!isIn(k, STROKE, MENDED) || !isIn(figure, 0, MOST_FIGURE)) {
            return NO_SUCH;
        }
        shelves[d].takeDawn(newDawn(k, figure));
        return 0;
    }

    public int row(int d, int sort, int n) {
        if (!isShelf(d) || !isIn(sort, BYTES, INTS) || n > MOST_ELEMENTS) {
            return NO_SUCH;
        }
        if (n < 0) {
            return BELOW_ZERO;
        }
        shelves[d].takeRow(sort, n);
        return 0;
    }

    public int put(int d, int i, int v) {
        int refusal = rowRefusal(d, ANY_SORT);
        if (refusal != WELL) {
            return refusal;
        }
        return shelves[d].setValue(i, v) ? 0 : NO_PLACE;
    }

    public long element(int d, int i) throws IllegalArgumentException, IllegalStateException {
        if (!isShelf(d)) {
            throw new IllegalArgumentException("no such shelf");
        }
        if (!shelves[d].hasPlace(i)) {
            throw new IllegalStateException("no row, or no such place in it");
        }
        return shelves[d].valueAt(i);
    }

    public int copy(int d, int i, int e, int j, int n) {
        if (!isShelf(d) || !isShelf(e)) {
            return NO_SUCH;
        }
        Shelf from = shelves[d];
        Shelf to = shelves[e];
        if (from.isEmpty() || to.isEmpty()) {
            return NOTHING_HELD;
        }
        if (!from.hasRow(ANY_SORT) || !to.hasRow(from.sort())) {
            return OTHER_KIND;
        }
        if (!from.hasPlaces(i, n) || !to.hasPlaces(j, n)) {
            return NO_PLACE;
        }
        to.takeValues(j, from, i, n);
        return n;
    }

    public int ease(int d) {
        int refusal = dawnRefusal(d);
        return refusal != WELL ? refusal : shelves[d].heldDawn().easiness();
    }

    public int toss(int d) {
        int refusal = dawnRefusal(d);
        return refusal != WELL ? refusal : caughtFailure(shelves[d].heldDawn());
    }

    // What is told at several calls.

    private static boolean isIn(int v, int least, int greatest) {
        return v >= least && v <= greatest;
    }

    private static boolean isHalf(int what) {
        return what == 0 || what == 1;
    }

    private static boolean isShelf(int d) {
        return isIn(d, 0, SHELVES - 1);
    }

    private static boolean areTenths(int md) {
        return isIn(md, 0, 99) && md / 10 + md % 10 <= 10;
    }

    private int rowRefusal(int d, int sort) {
        if (!isShelf(d)) {
            return NO_SUCH;
        }
        if (shelves[d].isEmpty()) {
            return NOTHING_HELD;
        }
        return shelves[d].hasRow(sort) ? WELL : OTHER_KIND;
    }

    private int dawnRefusal(int d) {
        if (!isShelf(d)) {
            return NO_SUCH;
        }
        if (shelves[d].isEmpty()) {
            return NOTHING_HELD;
        }
        return shelves[d].heldDawn() != null ? WELL : OTHER_KIND;
    }

    private static Stroke newDawn(int kind, int figure) {
        switch (kind) {
            case TRUE:
                return new TrueDawn(figure);
            case MISSED:
                return new Missed(figure);
            case DOUBLED:
                return new Doubled(figure);
            case GUESSED:
                return new Guessed(figure);
            case SCRAPED:
                return new Scraped(figure);
            case BOUND:
                return new Bound(figure);
            case MENDED:
                return new Mended(figure);
            default:
                return new Stroke(figure);
        }
    }

    private static int caughtFailure(Stroke dawn) {
        try {
            dawn.fail();
        } catch (IllegalStateException thrown) {
            return dawn.failure();
        }
        return NO_FAILURE;
    }

    private static long power(int base, int times) {
        long product = 1;
        for (int i = 0; i < times; i++) {
            product *= base;
        }
        return product;
    }

    /** The part above (0) or below (1) the line; 0 by 1 where nothing is above or below. */
    private static long inLeastTerms(long above, long below, int part) {
        if (above == 0 || below == 0) {
            return part;
        }
        long divisor = greatestDivisor(above, below);
        long told = part == 0 ? above : below;
        return divisor > 1 ? told / divisor : told;
    }

    private static long greatestDivisor(long a, long b) {
        long greater = a;
        long lesser = b;
        // Euclid's way is at its end after fewer than 100 steps for any two longs.
        for (int step = 0; step < 100 && lesser != 0; step++) {
            long rest = greater % lesser;
            greater = lesser;
            lesser = rest;
        }
        return greater;
    }

    // What is likely.

    /** Weighs how many days there were; a refusal, if what is told of them isn't well. */
    private int weigh(int md, int s, int e) {
        if (!areTenths(md) || !isIn(s, 0, MOST_STROKES)) {
            return NO_SUCH;
        }
        int refusal = rowRefusal(e, BYTES);
        if (refusal != WELL) {
            return refusal;
        }
        if (!areSigns(shelves[e])) {
            return NO_PLACE;
        }
        likelihood.weigh(md, s, shelves[e]);
        return WELL;
    }

    private static boolean areSigns(Shelf signs) {
        if (signs.size() % 3 != 0 || signs.size() > 6) {
            return false;
        }
        for (int i = 0; i < signs.size(); i += 3) {
            int divisor = signs.valueAt(i);
            if (!isIn(divisor, 2, 9) || !isIn(signs.valueAt(i + 1), 0, divisor - 1)) {
                return false;
            }
            if (!isIn(signs.valueAt(i + 2), 0, 9)) {
                return false;
            }
        }
        return true;
    }

    // Knocks, events, rules.

    private int knocksRefusal(int d) {
        int refusal = rowRefusal(d, INTS);
        if (refusal != WELL) {
            return refusal;
        }
        return areKnocks(shelves[d]) ? WELL : NO_PLACE;
    }

    private static boolean areKnocks(Shelf knocks) {
        if (!isIn(knocks.size(), 1, 8)) {
            return false;
        }
        for (int i = 0; i < knocks.size(); i++) {
            if (!isIn(knocks.valueAt(i), -9999, 9999)) {
                return false;
            }
        }
        return true;
    }

    /** Between two neighbours the sum is a straight line: the least number that joins best is a knock. */
    private static int joiningNumber(Shelf knocks) {
        int best = knocks.valueAt(0);
        int leastSum = sumOfDifferences(knocks, best);
        for (int i = 1; i < knocks.size(); i++) {
            int number = knocks.valueAt(i);
            int sum = sumOfDifferences(knocks, number);
            if (sum < leastSum || sum == leastSum && number < best) {
                best = number;
                leastSum = sum;
            }
        }
        return best;
    }

    private static int sumOfDifferences(Shelf knocks, int number) {
        int sum = 0;
        for (int i = 0; i < knocks.size(); i++) {
            sum += Math.abs(knocks.valueAt(i) - number);
        }
        return sum;
    }

    private static int pairsAlike(Shelf knocks) {
        int pairs = 0;
        for (int i = 1; i < knocks.size(); i++) {
            for (int j = 0; j < i; j++) {
                if (knocks.valueAt(i) == knocks.valueAt(j)) {
                    pairs++;
                }
            }
        }
        return pairs;
    }

    private boolean areEvents(Shelf told) {
        if (told.size() % 2 != 0) {
            return false;
        }
        for (int i = 1; i < told.size(); i += 2) {
            if (!isIn(told.valueAt(i), 1, standing.size())) {
                return false;
            }
        }
        return true;
    }

    private int firstFalseEvent(Shelf told) {
        for (int i = 0; i < told.size(); i += 2) {
            if (told.valueAt(i) != standing.thoughtBehind(told.valueAt(i + 1) - 1)) {
                return i;
            }
        }
        return NONE;
    }

    private static int offByRule(int rule, int md, int n, int z) {
        int seed = z;
        int count = 0;
        for (int day = 0; day < n; day++) {
            seed = nextSeed(seed);
            int light = marksOf(seed, md);
            seed = nextSeed(seed);
            int bread = marksOf(seed, md);
            count += countedBy(rule, light, bread);
            if (rule == 2 && (day + 1) % WEEK_DAYS == 0) {
                count = (count + WEEK_DAYS - 1) / WEEK_DAYS * WEEK_DAYS;
            }
        }
        return n - count;
    }

    private static int nextSeed(int z) {
        return z * 1103515245 + 12345;
    }

    private static int marksOf(int seed, int md) {
        int draw = (seed & WITHOUT_SIGN) / 65536 % 10;
        if (draw < md / 10) {
            return 0;
        }
        return draw < md / 10 + md % 10 ? 2 : 1;
    }

    private static int countedBy(int rule, int light, int bread) {
        switch (rule) {
            case 1:
                return Math.max(light, bread);
            case 3:
                return Math.min(light, bread);
            default:
                return light;
        }
    }

    // Moons, stars, diaries, walls that are judged.

    private static int moonOf(int day) {
        return (11 * day + 7) % 30;
    }

    private static boolean isMoonNear(int day, int moon, int e) {
        int apart = Math.abs(moonOf(day) - moon);
        return Math.min(apart, 30 - apart) <= e;
    }

    private static int minuteOfStar(int day) {
        int minute = MINUTES - 1 - 4 * day;
        return minute < 0 ? minute + MINUTES : minute;
    }

    private static boolean isDiary(Shelf told) {
        if (told.size() % 2 != 0) {
            return false;
        }
        for (int i = 0; i < told.size(); i += 2) {
            if (!isIn(told.valueAt(i), 0, 99) || !isIn(told.valueAt(i + 1), 0, WEEK_DAYS - 1)) {
                return false;
            }
        }
        return true;
    }

    private int firstFalseDay(Shelf told) {
        int ahead = -1;
        for (int i = 0; i < told.size(); i += 2) {
            int day = told.valueAt(i);
            if (day <= ahead || told.valueAt(i + 1) != standing.weekDayOf(day)) {
                return i;
            }
            ahead = day;
        }
        return NONE;
    }

    private int firstMisjudged(Shelf told) {
        int dawns = standing.size();
        int both = Math.min(told.size(), dawns);
        for (int i = 0; i < both; i++) {
            int thought = told.valueAt(i);
            if (thought != told.leastOfSort() && thought != standing.thoughtBehind(i)) {
                return i;
            }
        }
        return told.size() == dawns ? NONE : both;
    }

    /** A DAWN of KIND STROKE; the other KINDS are under it, as the document tells them. */
    private static class Stroke {
        private final int figure;

        Stroke(int figure) {
            this.figure = figure;
        }

        int kind() {
            return STROKE;
        }

        int figure() {
            return figure;
        }

        int thoughtBehind(int was, int day) {
            return was;
        }

        int easiness() {
            return 1;
        }

        boolean hasFailure() {
            return figure != 0;
        }

        int failure() {
            return figure;
        }

        void fail() {
            if (hasFailure()) {
                throw new IllegalStateException("the failure of a dawn");
            }
        }
    }

    private static class TrueDawn extends Stroke {
        TrueDawn(int figure) {
            super(figure);
        }

        int kind() {
            return TRUE;
        }

        int thoughtBehind(int was, int day) {
            return super.thoughtBehind(was, day) + 1;
        }

        int easiness() {
            return super.easiness() + 2;
        }
    }

    private static class Missed extends Stroke {
        Missed(int figure) {
            super(figure);
        }

        int kind() {
            return MISSED;
        }

        int easiness() {
            return super.easiness() - 1;
        }
    }

    private static final class Doubled extends TrueDawn {
        Doubled(int figure) {
            super(figure);
        }

        int kind() {
            return DOUBLED;
        }

        int thoughtBehind(int was, int day) {
            return super.thoughtBehind(was, day) + 1;
        }

        int easiness() {
            return 2 * super.easiness();
        }
    }

    private static final class Guessed extends Stroke {
        Guessed(int figure) {
            super(figure);
        }

        int kind() {
            return GUESSED;
        }

        int thoughtBehind(int was, int day) {
            return super.thoughtBehind(was, day) + figure();
        }

        int easiness() {
            return super.easiness() * figure();
        }

        boolean hasFailure() {
            return false;
        }
    }

    private static final class Scraped extends Missed {
        Scraped(int figure) {
            super(figure);
        }

        int kind() {
            return SCRAPED;
        }

        int thoughtBehind(int was, int day) {
            return Math.max(super.thoughtBehind(was, day) - figure(), 0);
        }

        int easiness() {
            return super.easiness() - figure();
        }

        int failure() {
            return super.failure() + 100;
        }
    }

    private static final class Bound extends TrueDawn {
        Bound(int figure) {
            super(figure);
        }

        int kind() {
            return BOUND;
        }

        int easiness() {
            return super.easiness() + figure();
        }
    }

    private static final class Mended extends TrueDawn {
        Mended(int figure) {
            super(figure);
        }

        int kind() {
            return MENDED;
        }

        int thoughtBehind(int was, int day) {
            int least = super.thoughtBehind(was, day);
            return least + Math.floorMod(day + 1 - least, WEEK_DAYS);
        }

        int easiness() {
            return 3 * super.easiness();
        }

        int failure() {
            return 200 + easiness();
        }
    }

    /** The DAWNS as they came, what was THOUGHT behind each, and WEEK. */
    private static final class Wall {
        private final Stroke[] dawns = new Stroke[MOST_DAWNS];
        private final int[] thoughts = new int[MOST_DAWNS];
        private int size = 0;
        private int weekOfFirst = 0;

        int size() {
            return size;
        }

        boolean has(int dawn) {
            return dawn >= 0 && dawn < size;
        }

        int kindOf(int dawn) {
            return has(dawn) ? dawns[dawn].kind() : NO_SUCH;
        }

        int figureOf(int dawn) {
            return has(dawn) ? dawns[dawn].figure() : NO_SUCH;
        }

        /** THOUGHT behind a DAWN; 0 ahead of all. */
        int thoughtBehind(int dawn) {
            return has(dawn) ? thoughts[dawn] : 0;
        }

        int thoughtNow() {
            return thoughtBehind(size - 1);
        }

        int weekOfFirst() {
            return weekOfFirst;
        }

        int weekDayOf(int day) {
            return (day + weekOfFirst) % WEEK_DAYS;
        }

        boolean setWeek(int n) {
            if (n < 0 || n >= WEEK_DAYS) {
                return false;
            }
            weekOfFirst = n;
            return true;
        }

        boolean add(Stroke dawn) {
            if (dawn == null || size >= MOST_DAWNS) {
                return false;
            }
            dawns[size] = dawn;
            thoughts[size] = dawn.thoughtBehind(thoughtNow(), size);
            size++;
            return true;
        }

        boolean addTimes(Stroke dawn, int times) {
            for (int i = 0; i < times; i++) {
                if (!add(dawn)) {
                    return false;
                }
            }
            return true;
        }

        boolean dropLatest() {
            if (size == 0) {
                return false;
            }
            size--;
            return true;
        }

        /** The DAY of the i-th ENTRY; below 0 if there is none such. */
        int dayOfEntry(int i) {
            int ahead = 0;
            for (int day = 0; day < size; day++) {
                if (dawns[day] instanceof Bound) {
                    if (ahead == i) {
                        return day;
                    }
                    ahead++;
                }
            }
            return NONE;
        }

        int entries() {
            int many = 0;
            for (int day = 0; day < size; day++) {
                if (dawns[day] instanceof Bound) {
                    many++;
                }
            }
            return many;
        }

        /** MISSED DAWNS, with the SCRAPED ones that are under them. */
        int missed() {
            int many = 0;
            for (int day = 0; day < size; day++) {
                if (dawns[day] instanceof Missed) {
                    many++;
                }
            }
            return many;
        }

        void becomes(Wall other) {
            for (int day = 0; day < other.size; day++) {
                dawns[day] = other.dawns[day];
                thoughts[day] = other.thoughts[day];
            }
            size = other.size;
            weekOfFirst = other.weekOfFirst;
        }
    }

    /** Reads the text of a WALL: first whether it is one at all, then each STATEMENT on a wall of trial. */
    private static final class WallReader {
        private final Shelf text;
        private int place = 0;

        WallReader(Shelf text) {
            this.text = text;
        }

        /** How many STATEMENTS the text has; or its FAULT of kind 1. */
        int passAll() {
            int statements = 0;
            do {
                if (!passStatement()) {
                    return -1000 - place;
                }
                statements++;
            } while (place < text.size() && statements < MOST_ELEMENTS);
            return statements;
        }

        /** Goes behind the STATEMENT at the place; if there is none, to the byte with which none can go on. */
        private boolean passStatement() {
            switch (text.valueAt(place)) {
                case 'd':
                    place++;
                    return passDigit() && passDigit() && passEnd();
                case 'k':
                    place++;
                    return passDigit() && passEnd();
                case 't':
                    place++;
                    return passNumber() && passEnd();
                case 'b':
                    place++;
                    return passEnd();
                default:
                    return false;
            }
        }

        private boolean passNumber() {
            boolean mayGoOn = text.valueAt(place) != '0';
            if (!passDigit()) {
                return false;
            }
            if (mayGoOn && isDigit(place)) {
                place++;
            }
            return true;
        }

        private boolean passDigit() {
            if (!isDigit(place)) {
                return false;
            }
            place++;
            return true;
        }

        private boolean passEnd() {
            if (text.valueAt(place) != ';') {
                return false;
            }
            place++;
            return true;
        }

        private boolean isDigit(int at) {
            return text.valueAt(at) >= '0' && text.valueAt(at) <= '9';
        }

        private int digit(int at) {
            return text.valueAt(at) - '0';
        }

        /** The place of the first STATEMENT that can't be done on the wall; below 0 if all are done. */
        int firstUndone(Wall wall) {
            for (int at = 0; at < text.size(); at++) {
                boolean begins = at == 0 || text.valueAt(at - 1) == ';';
                if (begins && !isDone(wall, at)) {
                    return at;
                }
            }
            return NONE;
        }

        private boolean isDone(Wall wall, int at) {
            switch (text.valueAt(at)) {
                case 'd':
                    return digit(at + 1) <= MENDED && wall.add(newDawn(digit(at + 1), digit(at + 2)));
                case 'k':
                    return wall.setWeek(digit(at + 1));
                case 't':
                    return wall.addTimes(newDawn(TRUE, 0), numberAt(at + 1));
                default:
                    return wall.dropLatest();
            }
        }

        private int numberAt(int at) {
            return isDigit(at + 1) ? 10 * digit(at) + digit(at + 1) : digit(at);
        }
    }

    /** How likely it is that there were so many days, by strokes and SIGNS. */
    private static final class Likelihood {
        /** Of 10 ways for each day, in how many there are so many strokes altogether. */
        private final long[] ways = new long[MOST_STROKES + 1];
        /** How likely each number of days is, all by one line below that is left away. */
        private final long[] weights = new long[MOST_DAYS + 1];

        long waysTo(int md, int t, int s) {
            beginWays();
            for (int day = 0; day < t; day++) {
                addDay(md);
            }
            return waysTo(s);
        }

        private long waysTo(int s) {
            return s >= 0 && s <= MOST_STROKES ? ways[s] : 0;
        }

        private void beginWays() {
            for (int s = 1; s <= MOST_STROKES; s++) {
                ways[s] = 0;
            }
            ways[0] = 1;
        }

        private void addDay(int md) {
            int none = md / 10;
            int two = md % 10;
            int one = 10 - none - two;
            // Downwards, since each is made of lower ones as they were a day ahead.
            for (int s = MOST_STROKES; s >= 0; s--) {
                ways[s] = none * waysTo(s) + one * waysTo(s - 1) + two * waysTo(s - 2);
            }
        }

        void weigh(int md, int s, Shelf signs) {
            beginWays();
            for (int t = 0; t <= MOST_DAYS; t++) {
                weights[t] = waysTo(s) * power(10, MOST_DAYS - t) * tenthsOfSigns(t, signs);
                addDay(md);
            }
        }

        private static long tenthsOfSigns(int t, Shelf signs) {
            long product = 1;
            for (int i = 0; i < signs.size(); i += 3) {
                int slip = signs.valueAt(i + 2);
                product *= hasRest(t, signs.valueAt(i), signs.valueAt(i + 1)) ? 10 - slip : slip;
            }
            return product;
        }

        private static boolean hasRest(int t, int divisor, int rest) {
            return divisor > 0 && t % divisor == rest;
        }

        long weightOf(int t) {
            return t >= 0 && t <= MOST_DAYS ? weights[t] : 0;
        }

        long weightOfAll() {
            long sum = 0;
            for (int t = 0; t <= MOST_DAYS; t++) {
                sum += weights[t];
            }
            return sum;
        }

        int likeliest() {
            int best = 0;
            for (int t = 1; t <= MOST_DAYS; t++) {
                if (weights[t] > weightOf(best)) {
                    best = t;
                }
            }
            return weightOf(best) > 0 ? best : NONE;
        }

        int least() {
            for (int t = 0; t <= MOST_DAYS; t++) {
                if (weights[t] > 0) {
                    return t;
                }
            }
            return NONE;
        }

        int greatest() {
            for (int t = MOST_DAYS; t >= 0; t--) {
                if (weights[t] > 0) {
                    return t;
                }
            }
            return NONE;
        }

        /** The M of NEXT. */
        int bestDivisor() {
            int best = 2;
            for (int divisor = 3; divisor <= 9; divisor++) {
                if (mostWithOneRest(divisor) < mostWithOneRest(best)) {
                    best = divisor;
                }
            }
            return best;
        }

        int mostWithOneRest(int divisor) {
            int most = 0;
            for (int rest = 0; rest < divisor; rest++) {
                int many = 0;
                for (int t = rest; t <= MOST_DAYS; t++) {
                    if (weights[t] > 0 && hasRest(t, divisor, rest)) {
                        many++;
                    }
                }
                most = Math.max(most, many);
            }
            return most;
        }
    }

    /** Holds nothing, a DAWN, or a ROW; the elements have their room once and for all ROWS to come. */
    private static final class Shelf {
        private static final int NO_ROW = -1;
        private static final int LEAST_BYTE = -128;
        private static final int LEAST_SHORT = -32768;
        private static final int LEAST_INT = -2147483648;

        private Stroke dawn = null;
        private int sort = NO_ROW;
        private int size = 0;
        private final int[] values = new int[MOST_ELEMENTS];

        void empty() {
            dawn = null;
            sort = NO_ROW;
            size = 0;
        }

        void takeDawn(Stroke taken) {
            empty();
            dawn = taken;
        }

        void takeRow(int rowSort, int rowSize) {
            dawn = null;
            sort = rowSort;
            size = Math.min(rowSize, MOST_ELEMENTS);
            for (int i = 0; i < size; i++) {
                values[i] = 0;
            }
        }

        boolean isEmpty() {
            return dawn == null && sort == NO_ROW;
        }

        boolean hasRow(int wanted) {
            return sort != NO_ROW && (wanted == ANY_SORT || sort == wanted);
        }

        Stroke heldDawn() {
            return dawn;
        }

        int sort() {
            return sort;
        }

        int size() {
            return size;
        }

        boolean hasPlace(int i) {
            return i >= 0 && i < size;
        }

        /** Whether n elements are there from i on; none are at the end, too. */
        boolean hasPlaces(int i, int n) {
            return i >= 0 && i <= size && n >= 0 && n <= size - i;
        }

        /** 0, which is no sign of a WALL, where there is no place. */
        int valueAt(int i) {
            return hasPlace(i) ? values[i] : 0;
        }

        boolean setValue(int i, int v) {
            if (!hasPlace(i)) {
                return false;
            }
            values[i] = lowestBits(v);
            return true;
        }

        private int lowestBits(int v) {
            switch (sort) {
                case BYTES:
                    return (byte) v;
                case SHORTS:
                    return (short) v;
                default:
                    return v;
            }
        }

        int leastOfSort() {
            switch (sort) {
                case BYTES:
                    return LEAST_BYTE;
                case SHORTS:
                    return LEAST_SHORT;
                default:
                    return LEAST_INT;
            }
        }

        void takeValues(int to, Shelf other, int from, int n) {
            if (hasPlaces(to, n) && other.hasPlaces(from, n)) {
                System.arraycopy(other.values, from, values, to, n);
            }
        }
    }
}
