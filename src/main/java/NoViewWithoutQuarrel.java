import java.util.Arrays;

/** A hill, the pairs on its bench, and the texts by which they quarrel; README.md says where the promises stand. */
public final class NoViewWithoutQuarrel {
    public static final int NONE = -1, BAD = -2, STATE = -3, FULL = -4;
    public static final long NO = -4611686018427387904L;

    private static final int NOTHING = -11, OUTSIDE = -12, UNLIKE = -13, BELOW_NOTHING = -14;
    private static final int NONE_SUCH = -1000, FAULTY = -100;

    private static final int MILES = 40, THINGS = 8, HOURS = 100;
    private static final int BENCH = 5, KINDS = 6, NUMBERS = 10, ANGERS = 100, MOST_TOLD = 9999;
    private static final int WORDS = 6, MINUTES = 100, HEAT = 99, ROW_WORDS = 9;
    private static final int MOST_ROW = 20, MOST_DRAWN = 99, MOST_SEEDS = 20, SEED_WORDS = 8;
    private static final int SHEETS = 4, CELLS = 40, SORTS = 3, BYTES = 0, SHORTS = 1;

    private static final int PAIR = 0, WED = 1, YOUNG = 2, BITTER = 3, HONEY = 4, ALONE = 5;
    /** Of each kind the one that it stands under. */
    private static final int[] ABOVE = {NONE, PAIR, PAIR, WED, YOUNG, PAIR};

    private static final int TAPE = 160, TEXTS = 6, PARTS = 3, MOST_OPEN = 5, DIGITS = 4;
    private static final int HEATS = 0, COOLS = 1, FAR = 2;
    private static final String FIRST_TEXT = "heats 5 + word * 3 ; cools 2 ; far anger ;";

    /** Names and keys, each filled up with blanks to SPAN signs, in the order of the numbers below. */
    private static final String SPELLINGS =
        "word   anger  number hour   things bench  heats  cools  far    or     and    not    ";
    private static final int SPAN = 7, SPELLED = 12, NAMES = 6;
    private static final int WORD = 0, ANGER = 1, NUMBER = 2, HOUR = 3, THING_COUNT = 4, BENCH_SIZE = 5;
    private static final int KEY_HEATS = 6, KEY_OR = 9, KEY_AND = 10, KEY_NOT = 11;
    private static final String SIGNS = "();+-*<=";
    /** Tokens that are neither spelled nor a sign; a sign's token is its byte. */
    private static final int TOKEN_NUMBER = 300, TOKEN_END = 301, TOKEN_WRONG = 302;

    /** Steps of a text; NAMES of them, from -1 downward, lay a name's number on the stack. */
    private static final int LAST_NAME = -6, STEP_NOT = -7, STEP_MINUS = -8;
    private static final int STEP_OR = -9, STEP_AND = -10, STEP_BELOW = -11, STEP_LIKE = -12;
    private static final int STEP_PLUS = -13, STEP_LESS = -14, STEP_TIMES = -15;

    private static final int EITHER = 0, BOTH = 1, SUM = 2, PRODUCT = 3;

    private final Scene now = new Scene();
    private final Scene kept = new Scene();
    private boolean hasImage;
    private final Texts texts = new Texts();
    private final Reader reader = new Reader(texts);
    private final Temper temper = new Temper(texts);
    private final Reach reach = new Reach();
    private final Sheet[] sheets = {new Sheet(), new Sheet(), new Sheet(), new Sheet()};

    public NoViewWithoutQuarrel() {
        for (int i = 0; i < FIRST_TEXT.length(); i++) {
            reader.put(FIRST_TEXT.charAt(i));
        }
        reader.read();
        texts.keep();
    }

    // ---- land, pairs

    public int set(int what, int of, int v) {
        switch (what) {
            case 0:
                return turnHour(v);
            case 1:
                return change(now.things, MILES, of, v, THINGS);
            case 2:
                return change(now.numbers, now.size, of, v, NUMBERS);
            case 3:
                return change(now.angers, now.size, of, v, ANGERS);
            default:
                return BAD;
        }
    }

    private int turnHour(int v) {
        if (!within(v, HOURS)) {
            return BAD;
        }
        int was = now.hour;
        now.hour = v;
        return was;
    }

    private static int change(int[] row, int size, int of, int v, int limit) {
        if (!within(of, size) || of >= row.length || !within(v, limit)) {
            return BAD;
        }
        int was = row[of];
        row[of] = v;
        return was;
    }

    public int pair(int kind, int number, int anger) {
        if (!within(kind, KINDS) || !within(number, NUMBERS) || !within(anger, ANGERS)) {
            return BAD;
        }
        return now.seat(kind, number, anger);
    }

    public int told(int of, int what) {
        switch (what) {
            case 0:
                return now.hour;
            case 1:
                return item(now.things, MILES, of);
            case 2:
                return item(now.numbers, now.size, of);
            case 3:
                return item(now.angers, now.size, of);
            case 4:
                return item(now.kinds, now.size, of);
            case 5:
                return item(now.tolds, now.size, of);
            default:
                return felt(of, what);
        }
    }

    private static int item(int[] row, int size, int of) {
        return within(of, size) && of < row.length ? row[of] : NONE_SUCH;
    }

    private int felt(int of, int what) {
        if (!now.has(of)) {
            return NONE_SUCH;
        }
        temper.of(now, of);
        int anger = now.angerOf(of);
        if (what == 6) {
            return temper.cools(anger);
        }
        if (what == 7) {
            return temper.far(anger);
        }
        return what >= 10 && what < 10 + WORDS ? temper.heats(anger, what - 10) : NONE_SUCH;
    }

    // ---- texts

    public int feed(int letter) {
        if (!within(letter, 256)) {
            return BAD;
        }
        return reader.put(letter) ? reader.size : FULL;
    }

    public int text() {
        if (texts.size >= TEXTS) {
            return FULL;
        }
        int fault = reader.read();
        return fault == NONE ? texts.keep() : FAULTY - fault;
    }

    public int force(int text) {
        if (!within(text, texts.size)) {
            return BAD;
        }
        int was = now.rule;
        now.rule = text;
        return was;
    }

    // ---- words, silence, what is seen

    public int say(int pair, int word) {
        if (!now.has(pair) || !within(word, WORDS)) {
            return BAD;
        }
        temper.of(now, pair);
        int anger = temper.heated(now.angerOf(pair), word);
        now.hear(pair, anger);
        return anger;
    }

    public int quiet(int n) {
        if (!within(n, MINUTES)) {
            return BAD;
        }
        int calm = 0;
        for (int pair = 0; pair < now.size && pair < BENCH; pair++) {
            temper.of(now, pair);
            now.angers[pair] = cooledFor(now.angers[pair], n);
            if (now.angers[pair] == 0) {
                calm++;
            }
        }
        return calm;
    }

    private int cooledFor(int anger, int minutes) {
        int left = anger;
        for (int i = 0; i < minutes; i++) {
            left = temper.cooled(left);
        }
        return left;
    }

    public int view(int what) {
        switch (what) {
            case 0:
                return furthest();
            case 1:
                return Long.bitCount(milesBelow(furthest()) & now.milesWithThing());
            case 2:
                return now.furthestThing(furthest());
            case 3:
                return furthestPair();
            case 4:
                int mile = now.furthestMileWithThing(MILES);
                return mile == NONE ? 0 : nearest(mile, 1);
            default:
                return BAD;
        }
    }

    public long clear(int what) {
        switch (what) {
            case 0:
                return milesBelow(furthest());
            case 1:
                return milesBelow(MILES) & ~milesBelow(furthestReached());
            case 2:
                return milesBelow(furthest()) & now.milesWithThing();
            default:
                return NO;
        }
    }

    private int farNow(int pair) {
        temper.of(now, pair);
        return temper.far(now.angerOf(pair));
    }

    private int furthest() {
        int pair = furthestPair();
        return pair == NONE ? 0 : farNow(pair);
    }

    private int furthestPair() {
        int best = NONE;
        int most = -1;
        for (int pair = 0; pair < now.size; pair++) {
            int far = farNow(pair);
            if (far > most) {
                most = far;
                best = pair;
            }
        }
        return best;
    }

    private int furthestReached() {
        int most = 0;
        for (int pair = 0; pair < now.size; pair++) {
            reach.spread(temper, now, pair);
            most = Math.max(most, reach.furthest(temper));
        }
        return most;
    }

    // ---- what words can do

    public int fewest(int pair, int k, int what) {
        if (!now.has(pair) || !within(k, MILES + 1) || !within(what, 2)) {
            return BAD;
        }
        reach.spread(temper, now, pair);
        int goal = reach.first(temper, k);
        return what == 0 ? reach.wordsTo(goal) : reach.rowTo(goal);
    }

    public int words(int pair, int what) {
        if (!now.has(pair) || !within(what, 6)) {
            return BAD;
        }
        reach.spread(temper, now, pair);
        switch (what) {
            case 0:
                return reach.wordsTo(0);
            case 1:
                return reach.size;
            case 2:
                return reach.least();
            case 3:
                return reach.most();
            case 4:
                return bestWord(now.angerOf(pair));
            default:
                return farBehind(now.angerOf(pair), bestWord(now.angerOf(pair)));
        }
    }

    private int farBehind(int anger, int word) {
        return temper.far(temper.heated(anger, word));
    }

    private int bestWord(int anger) {
        int best = 0;
        for (int word = 1; word < WORDS; word++) {
            if (farBehind(anger, word) > farBehind(anger, best)) {
                best = word;
            }
        }
        return best;
    }

    public int stays(int pair, int mile) {
        if (!now.has(pair) || !within(mile, MILES)) {
            return BAD;
        }
        temper.of(now, pair);
        int anger = now.angerOf(pair);
        int minutes = 0;
        while (minutes < MINUTES && temper.far(anger) > mile) {
            anger = temper.cooled(anger);
            minutes++;
        }
        return minutes;
    }

    public long rows(int pair, int k, int n, int part) {
        if (!now.has(pair) || !within(k, MILES + 1) || !within(n, MOST_ROW + 1) || !within(part, 2)) {
            return NO;
        }
        reach.spread(temper, now, pair);
        long all = 1;
        for (int i = 0; i < n; i++) {
            all *= WORDS;
        }
        return lowest(reach.rowsTo(temper, k, n), all, part);
    }

    public int whom(int mile, int what) {
        if (!within(mile, MILES) || !within(what, 2)) {
            return BAD;
        }
        return nearest(mile, what);
    }

    /** The pair that needs fewest words to see the mile, or, with what 1, how many these are. */
    private int nearest(int mile, int what) {
        int best = NONE;
        int least = NONE;
        for (int pair = 0; pair < now.size; pair++) {
            reach.spread(temper, now, pair);
            int needed = reach.wordsTo(reach.first(temper, mile + 1));
            if (needed != NONE && (best == NONE || needed < least)) {
                best = pair;
                least = needed;
            }
        }
        return what == 0 ? best : least;
    }

    // ---- views that were told

    public int tells(int sheet, int pair, int what) {
        if (!within(sheet, SHEETS) || !now.has(pair) || !within(what, 8)) {
            return BAD;
        }
        Sheet seen = sheets[sheet];
        if (seen.missing()) {
            return NOTHING;
        }
        temper.of(now, pair);
        int anger = now.angerOf(pair);
        switch (what) {
            case 0:
                return firstOtherwise(seen, anger);
            case 1:
                return fittingKinds(seen, anger);
            case 2:
                return fittingNumbers(seen, anger);
            case 3:
                return fittingAngers(seen);
            case 4:
                return leastFittingAnger(seen);
            case 5:
                return fittingTexts(seen, anger);
            case 6:
                return fittingWords(seen, anger);
            default:
                return fittingPairs(seen);
        }
    }

    private int firstOtherwise(Sheet seen, int anger) {
        int left = anger;
        for (int i = 0; i < seen.size; i++) {
            if (temper.far(left) != seen.at(i)) {
                return i;
            }
            left = temper.cooled(left);
        }
        return NONE;
    }

    private int fittingKinds(Sheet seen, int anger) {
        int bits = 0;
        for (int kind = 0; kind < KINDS; kind++) {
            temper.kind = kind;
            bits |= firstOtherwise(seen, anger) == NONE ? 1 << kind : 0;
        }
        return bits;
    }

    private int fittingNumbers(Sheet seen, int anger) {
        int bits = 0;
        for (int number = 0; number < NUMBERS; number++) {
            temper.renumber(number);
            bits |= firstOtherwise(seen, anger) == NONE ? 1 << number : 0;
        }
        return bits;
    }

    private int fittingAngers(Sheet seen) {
        int fitting = 0;
        for (int anger = 0; anger < ANGERS; anger++) {
            fitting += firstOtherwise(seen, anger) == NONE ? 1 : 0;
        }
        return fitting;
    }

    private int leastFittingAnger(Sheet seen) {
        for (int anger = 0; anger < ANGERS; anger++) {
            if (firstOtherwise(seen, anger) == NONE) {
                return anger;
            }
        }
        return NONE;
    }

    private int fittingTexts(Sheet seen, int anger) {
        int bits = 0;
        for (int text = 0; text < texts.size; text++) {
            temper.rule = text;
            bits |= firstOtherwise(seen, anger) == NONE ? 1 << text : 0;
        }
        return bits;
    }

    private int fittingWords(Sheet seen, int anger) {
        int bits = 0;
        for (int word = 0; word < WORDS; word++) {
            bits |= firstOtherwise(seen, temper.heated(anger, word)) == NONE ? 1 << word : 0;
        }
        return bits;
    }

    private int fittingPairs(Sheet seen) {
        int bits = 0;
        for (int pair = 0; pair < now.size; pair++) {
            temper.of(now, pair);
            bits |= firstOtherwise(seen, now.angerOf(pair)) == NONE ? 1 << pair : 0;
        }
        return bits;
    }

    public int film(int sheet, int pair, int n) {
        if (!within(sheet, SHEETS) || !now.has(pair) || !within(n, CELLS + 1)) {
            return BAD;
        }
        temper.of(now, pair);
        int anger = now.angerOf(pair);
        Sheet seen = sheets[sheet];
        seen.become(BYTES, n);
        for (int i = 0; i < n; i++) {
            seen.put(i, temper.far(anger));
            anger = temper.cooled(anger);
        }
        return n;
    }

    public int drawn(int seed, int pair, int n) {
        if (!now.has(pair) || !within(n, MOST_DRAWN + 1)) {
            return BAD;
        }
        temper.of(now, pair);
        return farDrawn(seed, now.angerOf(pair), n);
    }

    private int farDrawn(int seed, int anger, int n) {
        int z = seed;
        int then = anger;
        for (int i = 0; i < n; i++) {
            z = z * 1103515245 + 12345;
            then = temper.heated(then, (z >>> 9) % WORDS);
        }
        return temper.far(then);
    }

    public long chance(int seed, int m, int pair, int k, int part) {
        if (!now.has(pair) || m < 1 || m > MOST_SEEDS || !within(k, MILES + 1) || !within(part, 2)) {
            return NO;
        }
        temper.of(now, pair);
        int above = 0;
        for (int i = 0; i < m; i++) {
            above += farDrawn(seed + i, now.angerOf(pair), SEED_WORDS) >= k ? 1 : 0;
        }
        return lowest(above, m, part);
    }

    public int image() {
        kept.become(now);
        hasImage = true;
        return kept.size;
    }

    public int back() {
        if (!hasImage) {
            return STATE;
        }
        now.become(kept);
        return now.size;
    }

    public int count(int what) {
        switch (what) {
            case 0:
                return now.size;
            case 1:
                return Long.bitCount(now.milesWithThing());
            case 2:
                return now.toldOfAll();
            case 3:
                return texts.size;
            case 4:
                return reader.size;
            case 5:
                return now.rule;
            default:
                return BAD;
        }
    }

    // ---- the host

    public int sheet(int sheet, int sort, int n) {
        if (!within(sheet, SHEETS) || sort < NONE || sort >= SORTS) {
            return BAD;
        }
        if (sort != NONE && n > CELLS) {
            return BAD;
        }
        if (sort != NONE && n < 0) {
            return BELOW_NOTHING;
        }
        sheets[sheet].become(sort, sort == NONE ? 0 : n);
        return 1;
    }

    public int cell(int sheet, int i, int v) {
        if (!within(sheet, SHEETS)) {
            return BAD;
        }
        if (sheets[sheet].missing()) {
            return NOTHING;
        }
        return sheets[sheet].put(i, v) ? 1 : OUTSIDE;
    }

    public int copy(int sheet, int i, int other, int j, int n) {
        if (!within(sheet, SHEETS) || !within(other, SHEETS)) {
            return BAD;
        }
        Sheet source = sheets[sheet];
        Sheet target = sheets[other];
        if (source.missing() || target.missing()) {
            return NOTHING;
        }
        if (source.sort != target.sort) {
            return UNLIKE;
        }
        if (!source.holds(i, n) || !target.holds(j, n)) {
            return OUTSIDE;
        }
        System.arraycopy(source.cells, i, target.cells, j, n);
        return n;
    }

    public int pairs(int sheet, int sort, int from, int n) {
        if (!within(sheet, SHEETS) || !within(sort, SORTS) || !within(n, BENCH + 1)) {
            return BAD;
        }
        Sheet source = sheets[sheet];
        if (!source.missing() && source.sort != sort) {
            return UNLIKE;
        }
        if (source.missing()) {
            return NOTHING;
        }
        int came = 0;
        for (int i = 0; i < n; i++) {
            // A start outside the sheet stays outside: adding to it may not wrap round into the sheet.
            int at = within(from, CELLS) ? from + 3 * i : NONE;
            if (!source.holds(at, 3)) {
                return OUTSIDE;
            }
            came += pair(source.at(at), source.at(at + 1), source.at(at + 2)) >= 0 ? 1 : 0;
        }
        return came;
    }

    public int taken(int pair, int k) {
        if (!within(k, KINDS)) {
            return BAD;
        }
        if (!now.has(pair)) {
            return NOTHING;
        }
        return isUnder(now.kinds[pair], k) ? now.numbers[pair] : UNLIKE;
    }

    private static boolean isUnder(int kind, int k) {
        int up = kind;
        for (int i = 0; i < KINDS && within(up, KINDS); i++) {
            if (up == k) {
                return true;
            }
            up = ABOVE[up];
        }
        return false;
    }

    // ---- numbers

    private static boolean within(int v, int limit) {
        return v >= 0 && v < limit;
    }

    private static int bounded(int v, int least, int most) {
        return Math.max(least, Math.min(most, v));
    }

    private static long milesBelow(int far) {
        return (1L << bounded(far, 0, MILES)) - 1;
    }

    private static long lowest(long above, long below, int part) {
        long shared = commonDivisor(above, below);
        if (shared < 1) {
            return NO;
        }
        return (part == 0 ? above : below) / shared;
    }

    private static long commonDivisor(long a, long b) {
        long greater = a;
        long lesser = b;
        // Euclid's steps on longs are fewer than a hundred.
        for (int i = 0; i < 200 && lesser != 0; i++) {
            long rest = greater % lesser;
            greater = lesser;
            lesser = rest;
        }
        return greater;
    }

    /** All that an image keeps: land, hour, rule, and who sits on the bench. */
    private static final class Scene {
        final int[] things = new int[MILES];
        final int[] kinds = new int[BENCH];
        final int[] numbers = new int[BENCH];
        final int[] angers = new int[BENCH];
        final int[] tolds = new int[BENCH];
        int size;
        int hour;
        int rule;

        void become(Scene other) {
            System.arraycopy(other.things, 0, things, 0, MILES);
            System.arraycopy(other.kinds, 0, kinds, 0, BENCH);
            System.arraycopy(other.numbers, 0, numbers, 0, BENCH);
            System.arraycopy(other.angers, 0, angers, 0, BENCH);
            System.arraycopy(other.tolds, 0, tolds, 0, BENCH);
            size = other.size;
            hour = other.hour;
            rule = other.rule;
        }

        boolean has(int pair) {
            return within(pair, size) && pair < BENCH;
        }

        int seat(int kind, int number, int anger) {
            if (size < 0 || size >= BENCH) {
                return FULL;
            }
            kinds[size] = kind;
            numbers[size] = number;
            angers[size] = anger;
            tolds[size] = 0;
            size++;
            return size - 1;
        }

        int angerOf(int pair) {
            return has(pair) ? angers[pair] : 0;
        }

        void hear(int pair, int anger) {
            if (has(pair)) {
                angers[pair] = anger;
                tolds[pair] = Math.min(MOST_TOLD, tolds[pair] + 1);
            }
        }

        int toldOfAll() {
            int sum = 0;
            for (int pair = 0; pair < size && pair < BENCH; pair++) {
                sum += tolds[pair];
            }
            return sum;
        }

        long milesWithThing() {
            long bits = 0;
            for (int mile = 0; mile < MILES; mile++) {
                bits |= things[mile] != 0 ? 1L << mile : 0;
            }
            return bits;
        }

        int furthestMileWithThing(int far) {
            for (int mile = Math.min(far, MILES) - 1; mile >= 0; mile--) {
                if (things[mile] != 0) {
                    return mile;
                }
            }
            return NONE;
        }

        int furthestThing(int far) {
            int mile = furthestMileWithThing(far);
            return within(mile, MILES) ? things[mile] : 0;
        }
    }

    /** The texts, each as a row of steps for a stack: a number to lay on it, or what to do with those that lie. */
    private static final class Texts {
        private final int[] steps = new int[TEXTS * TAPE];
        private final int[] ends = new int[TEXTS * PARTS];
        // Each step comes from a byte of its own, and lays one number at most.
        private final int[] stack = new int[TAPE];
        private int written;
        int size;

        void begin() {
            written = 0;
        }

        void add(int step) {
            if (within(size, TEXTS) && within(written, TAPE)) {
                steps[size * TAPE + written] = step;
                written++;
            }
        }

        void endPart(int part) {
            if (within(size, TEXTS) && within(part, PARTS)) {
                ends[size * PARTS + part] = written;
            }
        }

        int keep() {
            size = Math.min(TEXTS, size + 1);
            return size - 1;
        }

        int worth(int text, int part, int[] names) {
            if (!within(text, TEXTS) || !within(part, PARTS) || names.length < NAMES) {
                return 0;
            }
            int end = ends[text * PARTS + part];
            int top = 0;
            for (int i = part == 0 ? 0 : ends[text * PARTS + part - 1]; i < end && within(i, TAPE); i++) {
                int step = steps[text * TAPE + i];
                if (step >= LAST_NAME && top < TAPE) {
                    stack[top] = step >= 0 ? step : names[-1 - step];
                    top++;
                } else if (step >= STEP_MINUS && top >= 1) {
                    stack[top - 1] = step == STEP_NOT ? (stack[top - 1] == 0 ? 1 : 0) : -stack[top - 1];
                } else if (top >= 2) {
                    stack[top - 2] = joined(step, stack[top - 2], stack[top - 1]);
                    top--;
                }
            }
            return stack[0];
        }

        private static int joined(int step, int a, int b) {
            switch (step) {
                case STEP_OR:
                    return a != 0 || b != 0 ? 1 : 0;
                case STEP_AND:
                    return a != 0 && b != 0 ? 1 : 0;
                case STEP_BELOW:
                    return a < b ? 1 : 0;
                case STEP_LIKE:
                    return a == b ? 1 : 0;
                case STEP_PLUS:
                    return a + b;
                case STEP_LESS:
                    return a - b;
                default:
                    return a * b;
            }
        }
    }

    /** Reads the tape, a token ahead, into the place of the next text. */
    private static final class Reader {
        private final Texts texts;
        private final int[] tape = new int[TAPE];
        int size;
        private int place;
        private int start;
        private int token;
        private int amount;
        private int fault;

        Reader(Texts texts) {
            this.texts = texts;
        }

        boolean put(int letter) {
            if (!within(size, TAPE)) {
                return false;
            }
            tape[size] = letter;
            size++;
            return true;
        }

        /** Empties the tape: the place of the fault, or NONE. */
        int read() {
            place = 0;
            fault = NONE;
            texts.begin();
            advance();
            for (int part = 0; part < PARTS; part++) {
                need(KEY_HEATS + part);
                chain(EITHER, 0);
                need(';');
                texts.endPart(part);
            }
            need(TOKEN_END);
            size = 0;
            return fault;
        }

        private void need(int due) {
            if (token == due) {
                advance();
            } else {
                refuse();
            }
        }

        /** Behind a fault no token is ever the one that is due, so that reading runs out at once. */
        private void refuse() {
            if (fault == NONE) {
                fault = start;
            }
            token = TOKEN_WRONG;
        }

        private void chain(int level, int open) {
            link(level, open);
            for (int i = 0; i < TAPE && joins(level); i++) {
                int sign = token;
                advance();
                link(level, open);
                texts.add(stepOf(sign));
            }
        }

        private void link(int level, int open) {
            if (level == PRODUCT) {
                one(open);
            } else if (level == BOTH) {
                denial(open);
            } else {
                chain(level + 1, open);
            }
        }

        private void denial(int open) {
            if (token == KEY_NOT && open < MOST_OPEN) {
                advance();
                denial(open + 1);
                texts.add(STEP_NOT);
                return;
            }
            chain(SUM, open);
            if (token == '<' || token == '=') {
                int sign = token;
                advance();
                chain(SUM, open);
                texts.add(stepOf(sign));
            }
        }

        private void one(int open) {
            if (token == TOKEN_NUMBER) {
                texts.add(amount);
                advance();
            } else if (within(token, NAMES)) {
                texts.add(-1 - token);
                advance();
            } else if (token == '-' && open < MOST_OPEN) {
                advance();
                one(open + 1);
                texts.add(STEP_MINUS);
            } else if (token == '(' && open < MOST_OPEN) {
                advance();
                chain(EITHER, open + 1);
                need(')');
            } else {
                refuse();
            }
        }

        private boolean joins(int level) {
            switch (level) {
                case EITHER:
                    return token == KEY_OR;
                case BOTH:
                    return token == KEY_AND;
                case SUM:
                    return token == '+' || token == '-';
                default:
                    return token == '*';
            }
        }

        private static int stepOf(int sign) {
            switch (sign) {
                case KEY_OR:
                    return STEP_OR;
                case KEY_AND:
                    return STEP_AND;
                case '<':
                    return STEP_BELOW;
                case '=':
                    return STEP_LIKE;
                case '+':
                    return STEP_PLUS;
                case '-':
                    return STEP_LESS;
                default:
                    return STEP_TIMES;
            }
        }

        private void advance() {
            while (place < size && place < TAPE && isBlank(tape[place])) {
                place++;
            }
            start = place;
            if (place >= size || place >= TAPE) {
                token = TOKEN_END;
            } else if (isLetter(tape[place])) {
                readSpelled();
            } else if (isDigit(tape[place])) {
                readNumber();
            } else {
                token = SIGNS.indexOf((char) tape[place]) >= 0 ? tape[place] : TOKEN_WRONG;
                place++;
            }
        }

        private void readSpelled() {
            while (place < size && place < TAPE && isLetter(tape[place])) {
                place++;
            }
            int length = place - start;
            token = TOKEN_WRONG;
            for (int i = 0; i < SPELLED && length < SPAN; i++) {
                int same = 0;
                while (same < length && SPELLINGS.charAt(i * SPAN + same) == tape[start + same]) {
                    same++;
                }
                if (same == length && SPELLINGS.charAt(i * SPAN + same) == ' ') {
                    token = i;
                }
            }
        }

        private void readNumber() {
            amount = 0;
            while (place < size && place < TAPE && isDigit(tape[place])) {
                // What stands behind the digits that a number may have makes it wrong, and needn't be known.
                amount = place - start < DIGITS ? amount * 10 + tape[place] - '0' : amount;
                place++;
            }
            token = place - start <= DIGITS ? TOKEN_NUMBER : TOKEN_WRONG;
        }

        private static boolean isBlank(int letter) {
            return letter == ' ' || letter == '\n';
        }

        private static boolean isLetter(int letter) {
            return letter >= 'a' && letter <= 'z';
        }

        private static boolean isDigit(int letter) {
            return letter >= '0' && letter <= '9';
        }
    }

    /** How a pair takes words and silence; what it is can be changed, to ask what would be. */
    private static final class Temper {
        private final Texts texts;
        private final int[] names = new int[NAMES];
        int rule;
        int kind;

        Temper(Texts texts) {
            this.texts = texts;
        }

        void of(Scene scene, int pair) {
            if (!scene.has(pair)) {
                return;
            }
            rule = scene.rule;
            kind = scene.kinds[pair];
            names[NUMBER] = scene.numbers[pair];
            names[HOUR] = scene.hour;
            names[THING_COUNT] = Long.bitCount(scene.milesWithThing());
            names[BENCH_SIZE] = scene.size;
        }

        void renumber(int number) {
            names[NUMBER] = number;
        }

        int heats(int anger, int word) {
            names[ANGER] = anger;
            names[WORD] = word;
            int v = bounded(texts.worth(rule, HEATS, names), -HEAT, HEAT);
            return bounded(heatsOfKind(v, anger, word), -HEAT, HEAT);
        }

        int cools(int anger) {
            names[ANGER] = anger;
            names[WORD] = 0;
            int v = bounded(texts.worth(rule, COOLS, names), 0, HEAT);
            return bounded(coolsOfKind(v, anger), 0, HEAT);
        }

        int far(int anger) {
            names[ANGER] = anger;
            names[WORD] = 0;
            int v = bounded(texts.worth(rule, FAR, names), 0, MILES);
            return bounded(farOfKind(v, anger), 0, MILES);
        }

        int heated(int anger, int word) {
            return bounded(anger + heats(anger, word), 0, ANGERS - 1);
        }

        int cooled(int anger) {
            return bounded(anger - cools(anger), 0, ANGERS - 1);
        }

        private int heatsOfKind(int v, int anger, int word) {
            switch (kind) {
                case WED:
                    return heatsOfWed(v, word);
                case YOUNG:
                    return v / 2;
                case BITTER:
                    return Math.max(0, heatsOfWed(v, word));
                case HONEY:
                    return anger < 20 ? -10 : v / 2;
                case ALONE:
                    return 0;
                default:
                    return v;
            }
        }

        private int heatsOfWed(int v, int word) {
            return word == names[NUMBER] % WORDS ? 2 * v : v;
        }

        private int coolsOfKind(int v, int anger) {
            switch (kind) {
                case WED:
                    return v - 1;
                case YOUNG:
                    return v + 3;
                case BITTER:
                    return anger > 50 ? 0 : v - 1;
                case HONEY:
                    return 2 * (v + 3);
                default:
                    return v;
            }
        }

        private int farOfKind(int v, int anger) {
            switch (kind) {
                case YOUNG:
                    return v - names[NUMBER];
                case BITTER:
                    return v + 5;
                case HONEY:
                    return anger == 0 ? 0 : v - names[NUMBER];
                case ALONE:
                    return 4 * names[NUMBER];
                default:
                    return v;
            }
        }
    }

    /** The angers that words lead to, ordered by the fewest words to each, and then by the first row of these. */
    private static final class Reach {
        private final int[] order = new int[ANGERS];
        private final int[] depth = new int[ANGERS];
        private final int[] from = new int[ANGERS];
        private final int[] by = new int[ANGERS];
        private final int[] next = new int[ANGERS * WORDS];
        private final long[] ways = new long[ANGERS];
        private final long[] later = new long[ANGERS];
        int size;

        void spread(Temper temper, Scene scene, int pair) {
            temper.of(scene, pair);
            Arrays.fill(depth, NONE);
            size = 0;
            meet(scene.angerOf(pair), NONE, NONE);
            for (int i = 0; i < size && i < ANGERS; i++) {
                int at = order[i];
                for (int word = 0; word < WORDS; word++) {
                    int then = temper.heated(at, word);
                    next[at * WORDS + word] = then;
                    meet(then, at, word);
                }
            }
        }

        private void meet(int anger, int before, int word) {
            if (!within(anger, ANGERS) || depth[anger] != NONE || !within(size, ANGERS)) {
                return;
            }
            depth[anger] = within(before, ANGERS) ? depth[before] + 1 : 0;
            from[anger] = before;
            by[anger] = word;
            order[size] = anger;
            size++;
        }

        /** The anger by which k miles are seen that is come to first, or NONE. */
        int first(Temper temper, int k) {
            for (int i = 0; i < size && i < ANGERS; i++) {
                if (temper.far(order[i]) >= k) {
                    return order[i];
                }
            }
            return NONE;
        }

        int wordsTo(int anger) {
            return within(anger, ANGERS) ? depth[anger] : NONE;
        }

        int rowTo(int anger) {
            int length = wordsTo(anger);
            if (length == NONE || length > ROW_WORDS) {
                return NONE;
            }
            int row = 0;
            int unit = 1;
            int at = anger;
            for (int i = 0; i < length && within(at, ANGERS); i++) {
                row += (by[at] + 1) * unit;
                unit *= 10;
                at = from[at];
            }
            return row;
        }

        int least() {
            int least = ANGERS;
            for (int i = 0; i < size && i < ANGERS; i++) {
                least = Math.min(least, order[i]);
            }
            return least;
        }

        int most() {
            int most = 0;
            for (int i = 0; i < size && i < ANGERS; i++) {
                most = Math.max(most, order[i]);
            }
            return most;
        }

        int furthest(Temper temper) {
            int most = 0;
            for (int i = 0; i < size && i < ANGERS; i++) {
                most = Math.max(most, temper.far(order[i]));
            }
            return most;
        }

        /** By how many rows of n words k miles are seen then. */
        long rowsTo(Temper temper, int k, int n) {
            Arrays.fill(ways, 0L);
            ways[order[0]] = 1;
            for (int i = 0; i < n; i++) {
                sayOneMore();
            }
            long sum = 0;
            for (int i = 0; i < size && i < ANGERS; i++) {
                sum += temper.far(order[i]) >= k ? ways[order[i]] : 0;
            }
            return sum;
        }

        private void sayOneMore() {
            Arrays.fill(later, 0L);
            for (int i = 0; i < size && i < ANGERS; i++) {
                int at = order[i];
                for (int word = 0; word < WORDS; word++) {
                    int then = next[at * WORDS + word];
                    if (within(then, ANGERS)) {
                        later[then] += ways[at];
                    }
                }
            }
            System.arraycopy(later, 0, ways, 0, ANGERS);
        }
    }

    /** A row of bytes, shorts or ints, or, of sort NONE, a missing one. */
    private static final class Sheet {
        final int[] cells = new int[CELLS];
        int sort = NONE;
        int size;

        boolean missing() {
            return sort == NONE;
        }

        void become(int newSort, int n) {
            sort = newSort;
            size = bounded(n, 0, CELLS);
            Arrays.fill(cells, 0);
        }

        /** Whether n items from one on lie in it; no sum is made that could wrap. */
        boolean holds(int first, int n) {
            return n >= 0 && first >= 0 && n <= size && first <= size - n;
        }

        int at(int i) {
            return within(i, size) && i < CELLS ? cells[i] : 0;
        }

        boolean put(int i, int v) {
            if (!within(i, size) || i >= CELLS) {
                return false;
            }
            cells[i] = cut(v);
            return true;
        }

        private int cut(int v) {
            if (sort == BYTES) {
                return (byte) v;
            }
            return sort == SHORTS ? (short) v : v;
        }
    }
}
