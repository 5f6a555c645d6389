/** The edges of promises 17 to 23: tells, film, drawn, chance, image, back, count. */
public final class ToldViewsEdgesTest {
    private static final String[] NO_SHEETS = {"-1", "4", "MIN", "MAX"}, NO_PAIRS = {"-1", "3", "5", "MIN", "MAX"};
    private static final int[] SEEDS = {0, 1, -1, 12345, Integer.MAX_VALUE, Integer.MIN_VALUE};

    public static void main(String[] args) {
        tellsRefused();
        tellsOfMissing();
        tellsOfEmpty();
        firstOtherwise();
        otherNumbers();
        kinds();
        numbers();
        angers();
        texts();
        words();
        pairs();
        filmRefused();
        filmSizes();
        filmBecomesBytes();
        filmAnew();
        drawnRefused();
        drawnNone();
        drawnWords();
        drawnAsSaid();
        chanceRefused();
        chanceSeeds();
        chanceMiles();
        chanceLowestTerms();
        imageCounts();
        imageKeeps();
        imageAnew();
        backState();
        backAgain();
        backLeaves();
        backBench();
        countRefused();
        counts();
        asksOnly();
        Check.end();
    }

    private static void tellsRefused() {
        Run run = Run.lively("tells(): BAD: SHEET, no such PAIR, what");
        for (String sheet : NO_SHEETS) {
            run.then("tells " + sheet + " 0 0 ! BAD");
        }
        for (String pair : NO_PAIRS) {
            run.then("tells 0 " + pair + " 0 ! BAD", "tells 0 " + pair + " 7 ! BAD");
        }
        for (String what : new String[] {"-1", "8", "MIN", "MAX"}) {
            run.then("tells 0 0 " + what + " ! BAD");
        }
        new Run("tells() without PAIRS").sheet(0, 0).then("tells 0 0 0 ! BAD", "tells 0 0 7 ! BAD");
    }

    private static void tellsOfMissing() {
        Run run = Run.lively("tells(): -11, behind BAD");
        for (int what = 0; what < 8; what++) {
            run.then("tells 3 0 " + what + " ! -11", "tells 3 2 " + what + " ! -11", "tells 3 3 " + what + " ! BAD");
        }
        run.then("tells 3 0 8 ! BAD", "tells 3 0 -1 ! BAD", "tells 3 -1 0 ! BAD");
        new Run("tells() of a SHEET that is missing anew", "pair 0 0 0 = 0").sheet(1, 2, 5).then("tells 1 0 0 = 0",
            "sheet 1 -1 0 = 1", "tells 1 0 0 ! -11");
    }

    private static void tellsOfEmpty() {
        for (int sort = 0; sort < 3; sort++) {
            Run.lively("of no numbers all are so").sheet(3, sort).then("tells 3 0 0 ! NONE", "tells 3 0 1 ! 63",
                "tells 3 0 2 ! 1023", "tells 3 0 3 ! 100", "tells 3 0 4 ! 0", "tells 3 0 5 ! 3", "tells 3 0 6 ! 63",
                "tells 3 0 7 ! 7");
        }
    }

    /** FAR is the anger, 1 less each minute: 40 numbers from 40 to 1. */
    private static void firstOtherwise() {
        Run run = new Run("the first (from 0) that is otherwise; NONE").rule("0", "1", "anger").then("pair 0 0 40 = 0",
            "sheet 0 1 40 = 1");
        for (int i = 0; i < 40; i++) {
            run.then("tells 0 0 0 = " + i, "cell 0 " + i + " " + (40 - i) + " = 1");
        }
        run.then("tells 0 0 0 = NONE", "cell 0 39 0 = 1", "tells 0 0 0 = 39", "cell 0 39 2 = 1", "tells 0 0 0 = 39",
            "cell 0 0 39 = 1", "tells 0 0 0 = 0", "told 0 3 = 40");
        new Run("of one number", "pair 0 0 7 = 0").sheet(0, 0, 7).then("tells 0 0 0 = NONE", "set 3 0 8 = 7",
            "tells 0 0 0 = 0");
        new Run("FAR at 0 MINUTES is FAR now, at 1 behind one", "pair 0 0 7 = 0").sheet(0, 0, 7, 5, 3, 1, 0, 0)
            .then("tells 0 0 0 = NONE");
    }

    private static void otherNumbers() {
        new Run("a number is all that its sort holds: bytes", "pair 0 0 10 = 0", "sheet 0 0 1 = 1", "cell 0 0 10 = 1",
            "tells 0 0 0 = NONE", "cell 0 0 266 = 1", "tells 0 0 0 = NONE", "cell 0 0 -246 = 1", "tells 0 0 0 = NONE",
            "cell 0 0 -10 = 1", "tells 0 0 0 = 0");
        new Run("a number is all that its sort holds: shorts", "pair 0 0 10 = 0", "sheet 0 1 1 = 1", "cell 0 0 266 = 1",
            "tells 0 0 0 = 0", "cell 0 0 65546 = 1", "tells 0 0 0 = NONE", "cell 0 0 -65526 = 1", "tells 0 0 0 = NONE");
        new Run("a number is all that its sort holds: ints", "pair 0 0 10 = 0", "sheet 0 2 1 = 1", "cell 0 0 65546 = 1",
            "tells 0 0 0 = 0", "cell 0 0 MIN = 1", "tells 0 0 0 = 0", "cell 0 0 MAX = 1", "tells 0 0 0 = 0",
            "cell 0 0 41 = 1", "tells 0 0 0 = 0", "tells 0 0 3 = 0", "tells 0 0 4 = NONE", "cell 0 0 -1 = 1",
            "tells 0 0 1 = 0", "tells 0 0 2 = 0", "tells 0 0 3 = 0", "tells 0 0 5 = 0", "tells 0 0 6 = 0",
            "tells 0 0 7 = 0");
    }

    /** A pair with number 4 and anger 10: what it would be as each kind. */
    private static void kinds() {
        int[][] seen = {{10, 8, 6}, {10, 9, 8}, {6, 1, 0}, {15, 14, 13}, {6, 0, 0}, {16, 16, 16}};
        for (int kind = 0; kind < 6; kind++) {
            for (int of = 0; of < 6; of++) {
                new Run("KINDS (bits 0 .. 5)", "pair " + of + " 4 10 = 0").sheet(0, 1, seen[kind])
                    .then("tells 0 0 1 ! " + (1 << kind));
            }
        }
        new Run("KINDS: none", "pair 0 4 10 = 0").sheet(0, 0, 11).then("tells 0 0 1 = 0");
        new Run("KINDS: some", "pair 5 4 10 = 0").sheet(0, 0, 10).then("tells 0 0 1 = 3", "cell 0 0 6 = 1",
            "tells 0 0 1 = 20");
        new Run("KINDS: all").rule("0", "0", "0").then("pair 0 0 50 = 0", "sheet 0 0 1 = 1", "tells 0 0 1 = 55",
            "cell 0 0 5 = 1", "tells 0 0 1 = 8");
    }

    private static void numbers() {
        for (int number = 0; number < 10; number++) {
            new Run("NUMBERS (bits 0 .. 9)", "pair 5 3 10 = 0").sheet(0, 0, 4 * number)
                .then("tells 0 0 2 ! " + (1 << number), "told 0 2 = 3");
            new Run("NUMBERS: by a text's number, too").rule("0", "0", "number+1").then("pair 1 3 10 = 0")
                .sheet(0, 0, number + 1).then("tells 0 0 2 ! " + (1 << number));
        }
        new Run("NUMBERS: none, all", "pair 0 3 10 = 0").sheet(0, 0, 9).then("tells 0 0 2 = 0", "cell 0 0 10 = 1",
            "tells 0 0 2 = 1023");
        new Run("NUMBERS: none beyond 9", "pair 5 3 10 = 0").sheet(0, 0, 40).then("tells 0 0 2 = 0", "cell 0 0 -4 = 1",
            "tells 0 0 2 = 0");
        new Run("NUMBERS of a YOUNG bounded", "pair 2 0 7 = 0").sheet(0, 0, 0).then("tells 0 0 2 = 896");
    }

    private static void angers() {
        new Run("ANGERS (of 0 .. 99: how many, the least; NONE)", "pair 0 0 50 = 0").sheet(0, 2, 0)
            .then("tells 0 0 3 = 1", "tells 0 0 4 = 0", "cell 0 0 39 = 1", "tells 0 0 3 = 1", "tells 0 0 4 = 39",
            "cell 0 0 40 = 1", "tells 0 0 3 = 60", "tells 0 0 4 = 40", "cell 0 0 41 = 1", "tells 0 0 3 = 0",
            "tells 0 0 4 = NONE", "told 0 3 = 50");
        new Run("ANGERS: the last").rule("0", "0", "anger-98").then("pair 0 0 0 = 0").sheet(0, 0, 1)
            .then("tells 0 0 3 = 1", "tells 0 0 4 = 99", "cell 0 0 2 = 1", "tells 0 0 3 = 0", "tells 0 0 4 = NONE",
            "cell 0 0 0 = 1", "tells 0 0 3 = 99", "tells 0 0 4 = 0");
        // 40, 40, .. till it falls: the last of 40 numbers tells 99 from 98.
        new Run("ANGERS by all the numbers").rule("0", "1", "(60<anger)*40").then("pair 0 0 0 = 0", "film 0 0 40 = 40",
            "tells 0 0 3 = 61", "tells 0 0 4 = 0", "set 3 0 99 = 0", "film 0 0 40 = 40", "tells 0 0 3 = 1",
            "tells 0 0 4 = 99", "set 3 0 98 = 99", "tells 0 0 0 = 38");
        new Run("ANGERS: all", "pair 5 9 0 = 0").sheet(0, 0, 36, 36).then("tells 0 0 3 = 100", "tells 0 0 4 = 0");
    }

    private static void texts() {
        Run run = new Run("TEXTS (bits), were they THE RULE", "pair 0 0 30 = 0").sheet(0, 0, 30, 28)
            .then("tells 0 0 5 ! 1", "cell 0 1 29 = 1", "tells 0 0 5 ! 0");
        for (int text = 1; text <= 5; text++) {
            run.rule("0", "" + text, "anger-" + text).then("cell 0 0 " + (30 - text) + " = 1",
                "cell 0 1 " + (30 - 2 * text) + " = 1", "tells 0 0 5 ! " + (1 << text));
        }
        run.then("count 5 = 5", "cell 0 0 30 = 1", "cell 0 1 28 = 1", "tells 0 0 5 ! 1", "tells 0 0 0 = 0",
            "force 0 = 5", "tells 0 0 0 = NONE", "cell 0 0 31 = 1", "tells 0 0 5 ! 0", "sheet 0 0 0 = 1",
            "tells 0 0 5 ! 63");
    }

    /** By word w 5 + 3 w more; behind it minutes take 2 each. */
    private static void words() {
        for (int word = 0; word < 6; word++) {
            int anger = 15 + 3 * word;
            new Run("WORDS (bits 0 .. 5) by which, were one said now", "pair 0 0 10 = 0")
                .sheet(0, 1, anger, anger - 2, anger - 4).then("tells 0 0 6 ! " + (1 << word), "told 0 3 = 10",
                "told 0 5 = 0", "cell 0 2 0 = 1", "tells 0 0 6 ! 0");
        }
        new Run("WORDS: none by what stands", "pair 0 0 10 = 0").sheet(0, 0, 10, 8).then("tells 0 0 0 = NONE",
            "tells 0 0 6 = 0");
        new Run("WORDS: all", "pair 5 2 10 = 0").sheet(0, 0, 8).then("tells 0 0 6 = 63");
        new Run("WORDS: those that end at the bound", "pair 0 0 90 = 0").rule("5+word*3", "0", "anger-59")
            .sheet(0, 0, 40).then("tells 0 0 6 = 60", "cell 0 0 36 = 1", "tells 0 0 6 = 1");
    }

    private static void pairs() {
        Run run = new Run("PAIRS (bits)", "pair 0 0 20 = 0", "pair 1 0 20 = 1", "pair 0 9 20 = 2", "pair 5 5 0 = 3",
            "pair 2 0 23 = 4").sheet(0, 0, 20);
        for (int pair = 0; pair < 5; pair++) {
            run.then("tells 0 " + pair + " 7 ! 15");
        }
        run.sheet(0, 0, 20, 18).then("tells 0 4 7 = 5").sheet(0, 0, 23, 18).then("tells 0 0 7 = 16").sheet(0, 0, 22)
            .then("tells 0 0 7 = 0").sheet(0, 0).then("tells 0 0 7 = 31");
    }

    private static void filmRefused() {
        Run run = Run.lively("film(): BAD");
        for (String sheet : NO_SHEETS) {
            run.then("film " + sheet + " 0 1 ! BAD");
        }
        for (String pair : NO_PAIRS) {
            run.then("film 0 " + pair + " 1 ! BAD", "film 3 " + pair + " 0 ! BAD");
        }
        for (String n : new String[] {"-1", "41", "MIN", "MAX"}) {
            run.then("film 0 0 " + n + " ! BAD", "film 3 0 " + n + " ! BAD");
        }
        new Run("film() without PAIRS", "film 0 0 0 ! BAD", "cell 0 0 0 = -11");
    }

    private static void filmSizes() {
        new Run("n (0 .. 40) numbers: n", "pair 0 0 40 = 0", "film 0 0 0 = 0", "cell 0 0 0 = -12", "film 0 0 1 = 1",
            "tells 0 0 0 = NONE", "cell 0 0 40 = 1", "cell 0 1 0 = -12", "film 0 0 40 = 40", "tells 0 0 0 = NONE",
            "cell 0 39 0 = 1", "tells 0 0 0 = NONE", "cell 0 40 0 = -12", "cell 0 19 2 = 1", "cell 0 18 5 = 1",
            "tells 0 0 0 = 18", "told 0 3 = 40", "film 3 0 2 = 2", "cell 3 2 0 = -12");
    }

    private static void filmBecomesBytes() {
        for (int sort = -1; sort < 3; sort++) {
            new Run("A SHEET truly becomes (bytes)", "pair 0 9 40 = 0", "sheet 2 " + sort + " 9 = 1", "film 2 0 3 = 3",
                "pairs 2 0 0 0 = 0", "pairs 2 1 0 0 = -13", "pairs 2 2 0 0 = -13", "cell 2 3 0 = -12",
                "tells 2 0 0 = NONE", "cell 2 0 296 = 1", "tells 2 0 0 = NONE");
        }
        // FAR 5, 3, 1 of a PAIR, read back as a pair of kind 5.
        new Run("FAR of a PAIR behind 0, 1, .. MINUTES", "pair 0 0 5 = 0", "film 0 0 3 = 3", "pairs 0 0 0 1 = 1",
            "told 1 4 = 5", "told 1 2 = 3", "told 1 3 = 1");
    }

    private static void filmAnew() {
        new Run("a shorter film forgets the longer one", "pair 0 0 40 = 0", "film 0 0 40 = 40", "film 0 0 2 = 2",
            "cell 0 2 0 = -12", "sheet 1 0 5 = 1", "copy 0 0 1 0 2 = 2", "tells 1 0 0 = 2");
        new Run("of the PAIR that is told", "pair 5 1 0 = 0", "pair 5 2 0 = 1", "film 0 1 2 = 2", "tells 0 1 0 = NONE",
            "tells 0 0 0 = 0", "film 0 0 2 = 2", "tells 0 0 0 = NONE");
    }

    private static void drawnRefused() {
        Run run = Run.lively("drawn(): BAD: no such PAIR, n");
        for (String pair : NO_PAIRS) {
            run.then("drawn 1 " + pair + " 1 ! BAD", "drawn MAX " + pair + " 0 ! BAD");
        }
        for (String n : new String[] {"-1", "100", "MIN", "MAX"}) {
            run.then("drawn 1 0 " + n + " ! BAD", "drawn MIN 0 " + n + " ! BAD");
        }
        new Run("drawn() without PAIRS", "drawn 0 0 0 ! BAD");
    }

    private static void drawnNone() {
        new Run("n WORDS (0 .. 99): none", "pair 0 0 23 = 0", "drawn 0 0 0 = 23", "drawn MIN 0 0 = 23",
            "drawn MAX 0 0 = 23", "drawn -1 0 0 = 23");
    }

    /** ANGER becomes the WORD that was said last, so FAR shows it. */
    private static void drawnWords() {
        for (int seed : SEEDS) {
            Run run = new Run("DRAWN by a SEED (an int)").rule("word-anger", "0", "anger").then("pair 0 0 40 = 0",
                "drawn " + seed + " 0 0 = 40");
            long z = seed;
            for (int n = 1; n <= 99; n++) {
                z = (z * 1103515245L + 12345L) & 0xffffffffL;
                run.then("drawn " + seed + " 0 " + n + " = " + (z >> 9) % 6);
            }
            run.then("drawn " + seed + " 0 99 ! " + (z >> 9) % 6);
        }
        // 0 gives 12345, -1 gives 3191464396 (unsigned), 1 gives 1103527590: 24, 6233328 and 2155327 512ths.
        new Run("DRAWN, by hand").rule("word-anger", "0", "anger").then("pair 0 0 40 = 0", "drawn 0 0 1 = 0",
            "drawn -1 0 1 = 0", "drawn 1 0 1 = 1");
    }

    private static void drawnAsSaid() {
        Run run = new Run("FAR at last", "pair 1 3 0 = 0", "image = 1");
        int z = 77;
        int[] said = new int[6];
        for (int i = 0; i < 6; i++) {
            z = z * 1103515245 + 12345;
            said[i] = (z >>> 9) % 6;
        }
        int anger = 0;
        for (int n = 0; n <= 6; n++) {
            run.then("drawn 77 0 " + n + " = " + Math.min(anger, 40));
            if (n < 6) {
                anger = Math.min(99, anger + (5 + 3 * said[n]) * (said[n] == 3 ? 2 : 1));
            }
        }
    }

    private static void chanceRefused() {
        Run run = Run.lively("chance(): NO: no such PAIR, m, k, part");
        for (String pair : NO_PAIRS) {
            run.then("chance 1 1 " + pair + " 0 0 ! NO");
        }
        for (String m : new String[] {"0", "-1", "21", "MIN", "MAX"}) {
            run.then("chance 1 " + m + " 0 0 0 ! NO", "chance 1 " + m + " 0 0 1 ! NO");
        }
        for (String k : new String[] {"-1", "41", "MIN", "MAX"}) {
            run.then("chance 1 1 0 " + k + " 0 ! NO", "chance 1 1 0 " + k + " 1 ! NO");
        }
        for (String part : new String[] {"-1", "2", "MIN", "MAX"}) {
            run.then("chance 1 1 0 0 " + part + " ! NO");
        }
        new Run("chance() without PAIRS", "chance 0 1 0 0 0 ! NO");
    }

    /** The word that a seed draws as its eighth. */
    private static int eighth(int seed) {
        int z = seed;
        for (int i = 0; i < 8; i++) {
            z = z * 1103515245 + 12345;
        }
        return (z >>> 9) % 6;
    }

    private static void chanceSeeds() {
        for (int seed : new int[] {0, 5, -1, -10, Integer.MAX_VALUE, Integer.MAX_VALUE - 9, Integer.MIN_VALUE}) {
            for (int k = 0; k <= 6; k++) {
                Run run = new Run("IN m seeds (1 .. 20), SEED and each 1 more (an int), 8 WORDS").rule("word-anger",
                    "0", "anger").then("pair 0 0 40 = 0");
                int above = 0;
                for (int m = 1; m <= 20; m++) {
                    above += eighth(seed + m - 1) >= k ? 1 : 0;
                    int shared = divisor(above, m);
                    run.then("chance " + seed + " " + m + " 0 " + k + " 0 = " + above / shared,
                        "chance " + seed + " " + m + " 0 " + k + " 1 = " + m / shared);
                }
            }
        }
    }

    private static int divisor(int a, int b) {
        return b == 0 ? a : divisor(b, a % b);
    }

    private static void chanceMiles() {
        new Run("k (0 .. 40) or more", "pair 5 9 0 = 0", "chance 3 20 0 0 0 ! 1", "chance 3 20 0 0 1 ! 1",
            "chance 3 1 0 36 0 = 1", "chance 3 1 0 36 1 = 1", "chance 3 20 0 36 0 = 1", "chance 3 20 0 37 0 = 0",
            "chance 3 20 0 37 1 = 1", "chance 3 1 0 40 0 = 0", "chance 3 1 0 40 1 = 1", "pair 0 0 99 = 1",
            "chance 3 20 1 40 0 = 1", "chance 3 20 1 40 1 = 1");
    }

    /** Of twenty seeds those whose eighth word is above 2 see 40 MILES, others none. */
    private static void chanceLowestTerms() {
        Run run = new Run("part 0 above, 1 below the line, in lowest terms").rule("word-anger", "0", "(2<anger)*40")
            .then("pair 0 0 0 = 0");
        int above = 0;
        for (int seed = 0; seed < 20; seed++) {
            above += eighth(seed) > 2 ? 1 : 0;
        }
        Check.holds("some of twenty, not all", above > 0 && above < 20);
        int shared = divisor(above, 20);
        for (int k : new int[] {1, 40}) {
            run.then("chance 0 20 0 " + k + " 0 = " + above / shared, "chance 0 20 0 " + k + " 1 = " + 20 / shared);
        }
        run.then("chance 0 20 0 0 0 = 1", "chance 0 20 0 0 1 = 1");
    }

    private static void imageCounts() {
        Run run = new Run("AN IMAGE is kept: how many PAIRS", "image = 0");
        for (int pair = 0; pair < 5; pair++) {
            run.then("pair 0 0 0 = " + pair, "image = " + (pair + 1));
        }
        run.then("pair 0 0 0 = FULL", "image = 5", "back = 5");
    }

    private static void imageKeeps() {
        new Run("AN IMAGE keeps THINGS", "set 1 0 7 = 0", "set 1 39 1 = 0", "image = 0", "set 1 0 0 = 7",
            "set 1 39 7 = 1", "set 1 20 3 = 0", "back = 0", "told 0 1 = 7", "told 39 1 = 1", "told 20 1 = 0",
            "count 1 = 2");
        new Run("AN IMAGE keeps HOUR", "set 0 0 99 = 0", "image = 0", "set 0 0 0 = 99", "back = 0", "told 0 0 = 99");
        new Run("AN IMAGE keeps NUMBERS", "pair 0 9 0 = 0", "pair 0 0 0 = 1", "image = 2", "set 2 0 0 = 9",
            "set 2 1 9 = 0", "back = 2", "told 0 2 = 9", "told 1 2 = 0");
        new Run("AN IMAGE keeps ANGERS", "pair 0 0 99 = 0", "pair 0 0 0 = 1", "image = 2", "quiet 3 = 1",
            "say 1 5 = 20", "back = 2", "told 0 3 = 99", "told 1 3 = 0");
        new Run("AN IMAGE keeps TOLD", "pair 0 0 0 = 0", "pair 0 0 0 = 1", "say 1 0 = 5", "image = 2", "say 0 0 = 5",
            "say 1 0 = 10", "back = 2", "told 0 5 = 0", "told 1 5 = 1", "count 2 = 1");
        new Run("AN IMAGE keeps THE RULE", "pair 0 0 7 = 0", "image = 1").rule("0", "0", "33").then("told 0 7 = 33",
            "back = 1", "count 5 = 0", "told 0 7 = 7", "count 3 = 2", "force 1 = 0", "image = 1", "force 0 = 1",
            "back = 1", "count 5 = 1");
        new Run("a PAIR keeps its KIND", "pair 3 0 0 = 0", "image = 1", "pair 4 0 0 = 1", "back = 1", "told 0 4 = 3");
    }

    private static void imageAnew() {
        new Run("THE IMAGE is the last", "set 0 0 1 = 0", "image = 0", "set 0 0 2 = 1", "pair 0 0 0 = 0", "image = 1",
            "set 0 0 3 = 2", "back = 1", "told 0 0 = 2", "set 0 0 4 = 2", "back = 1", "told 0 0 = 2");
        Run.lively("image() changes nothing but THE IMAGE").then("image = 3", "told 0 3 = 48", "count 0 = 3",
            "count 4 = 8", "image = 3");
    }

    private static void backState() {
        new Run("STATE: there is none", "back ! STATE", "pair 0 0 0 = 0", "set 0 0 5 = 0", "back ! STATE",
            "told 0 0 = 5", "count 0 = 1", "image = 1", "back = 1");
        new Run("an IMAGE of nothing is one", "image = 0", "back ! 0");
    }

    private static void backAgain() {
        new Run("THE IMAGE stays", "pair 0 0 9 = 0", "image = 1", "set 3 0 1 = 9", "back = 1", "told 0 3 = 9",
            "set 3 0 2 = 9", "back = 1", "told 0 3 = 9", "back ! 1");
        new Run("what is done behind back() leaves THE IMAGE", "pair 0 0 9 = 0", "set 1 3 3 = 0", "image = 1",
            "back = 1", "set 1 3 0 = 3", "say 0 0 = 14", "back = 1", "told 3 1 = 3", "told 0 3 = 9", "told 0 5 = 0");
    }

    private static void backLeaves() {
        new Run("TEXTS, THE TAPE and SHEETS stay", "pair 0 0 9 = 0", "image = 1").rule("1", "1", "1").sheet(0, 1, 1, 2)
            .tape("heats").then("back = 1", "count 3 = 2", "count 4 = 5", "cell 0 1 5 = 1", "cell 0 2 5 = -12",
            "pairs 0 1 0 0 = 0", "force 1 = 0", "told 0 7 = 1");
    }

    private static void backBench() {
        new Run("PAIRS that came since go", "pair 1 1 1 = 0", "image = 1", "pair 2 2 2 = 1", "pair 3 3 3 = 2",
            "say 1 0 = 4", "back = 1", "count 0 = 1", "told 1 4 = -1000", "say 1 0 = BAD", "taken 1 0 = -11",
            "pair 4 4 4 = 1", "told 1 4 = 4", "told 1 2 = 4", "told 1 3 = 4", "told 1 5 = 0", "told 2 4 = -1000");
        new Run("of a full bench all go", "image = 0", "pair 0 0 0 = 0", "pair 0 0 0 = 1", "pair 0 0 0 = 2",
            "pair 0 0 0 = 3", "pair 0 0 0 = 4", "pair 0 0 0 = FULL", "back = 0", "count 0 = 0", "view 3 = NONE",
            "pair 0 0 0 = 0");
    }

    private static void countRefused() {
        Run run = Run.lively("count(): BAD");
        for (String what : new String[] {"-1", "6", "MIN", "MAX"}) {
            run.then("count " + what + " ! BAD");
        }
    }

    private static void counts() {
        Run.lively("How many: 0 PAIRS, 1 MILES with a THING, 2 TOLD of all, 3 TEXTS, 4 bytes of THE TAPE, 5 THE RULE")
            .then("count 0 ! 3", "count 1 ! 3", "count 2 ! 2", "count 3 ! 2", "count 4 ! 8", "count 5 ! 1");
        Run miles = new Run("MILES with a THING, 0 .. 40", "count 1 = 0");
        for (int mile = 0; mile < 40; mile++) {
            miles.then("set 1 " + mile + " " + (1 + mile % 7) + " = 0", "count 1 = " + (mile + 1));
        }
        miles.then("set 1 0 0 = 1", "count 1 = 39");
        Run told = new Run("TOLD of all", "count 2 = 0");
        for (int pair = 0; pair < 5; pair++) {
            told.then("pair 5 0 0 = " + pair, "say " + pair + " 5 = 0", "say " + pair + " 0 = 0",
                "count 2 = " + (2 * pair + 2));
        }
    }

    private static void asksOnly() {
        Run.lively("what is asked changes nothing").then("tells 0 0 0 ! 0", "tells 0 0 1 ! 0", "tells 0 0 2 ! 0",
            "tells 0 0 3 ! 0", "tells 0 0 4 ! NONE", "tells 0 0 5 ! 0", "tells 0 0 6 ! 0", "tells 0 0 7 ! 0",
            "drawn 5 0 0 ! 40", "chance 5 20 2 40 0 ! 0", "chance 5 20 2 40 1 ! 1");
    }
}
