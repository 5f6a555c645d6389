/** Promises 17 to 23: tells, film, drawn, chance, image, back, count. */
public final class ToldViewsTest {
    private static final long NO = NoViewWithoutQuarrel.NO;

    public static void main(String[] args) {
        firstOtherwise();
        whatWouldTellIt();
        textsAndWords();
        emptyAndWrongSheets();
        films();
        drawnWords();
        chances();
        images();
        counts();
        Check.end();
    }

    private static void firstOtherwise() {
        NoViewWithoutQuarrel x = new NoViewWithoutQuarrel();
        x.pair(0, 0, 10);
        Check.fill(x, 0, 2, 10, 8, 6);
        Check.due("tells(0, 0, 0)", x.tells(0, 0, 0), -1);
        x.cell(0, 2, 7);
        Check.due("tells(0, 0, 0)", x.tells(0, 0, 0), 2);
        x.cell(0, 0, 266);
        Check.due("tells(0, 0, 0) of an int", x.tells(0, 0, 0), 0);
        Check.fill(x, 0, 0, 266, 8);
        Check.due("tells(0, 0, 0) of bytes", x.tells(0, 0, 0), -1);
        Check.due("nothing was cooled", x.told(0, 3), 10);
    }

    private static void whatWouldTellIt() {
        NoViewWithoutQuarrel x = new NoViewWithoutQuarrel();
        x.pair(1, 4, 10);
        x.pair(0, 0, 9);
        x.pair(5, 2, 99);
        x.pair(1, 7, 10);
        // WED cools by 1: 10 9 8. As a PAIR 10 8 6, as a YOUNG 6 1 0, as a BITTER 15 14 13.
        Check.fill(x, 3, 1, 10, 9, 8);
        Check.due("KINDS of WED", x.tells(3, 0, 1), 2);
        Check.due("NUMBERS of WED", x.tells(3, 0, 2), 1023);
        Check.due("ANGERS of WED", x.tells(3, 0, 3), 1);
        Check.due("the least ANGER of WED", x.tells(3, 0, 4), 10);
        Check.due("PAIRS", x.tells(3, 0, 7), 9);
        Check.due("PAIRS, asked of another", x.tells(3, 2, 7), 9);
        Check.due("ANGERS of a PAIR", x.tells(3, 1, 3), 0);
        Check.due("the least ANGER of a PAIR", x.tells(3, 1, 4), -1);
        Check.fill(x, 3, 0, 8, 8, 8);
        Check.due("KINDS of ALONE", x.tells(3, 2, 1), 32);
        Check.due("NUMBERS of ALONE", x.tells(3, 2, 2), 4);
        Check.due("ANGERS of ALONE", x.tells(3, 2, 3), 100);
        Check.due("the least ANGER of ALONE", x.tells(3, 2, 4), 0);
        Check.fill(x, 3, 0, 15, 14, 13);
        Check.due("KINDS by BITTER", x.tells(3, 0, 1), 8);
        Check.fill(x, 3, 0, 6, 1, 0);
        Check.due("KINDS by YOUNG", x.tells(3, 0, 1), 4);
        Check.fill(x, 3, 0, 6, 0, 0);
        Check.due("KINDS by HONEY", x.tells(3, 0, 1), 16);
        Check.fill(x, 3, 0, 10, 8, 6);
        Check.due("KINDS by PAIR", x.tells(3, 0, 1), 1);
        Check.fill(x, 3, 0, 40);
        Check.due("ANGERS from 40 on", x.tells(3, 0, 3), 60);
        Check.due("the least ANGER of them", x.tells(3, 0, 4), 40);
        NoViewWithoutQuarrel y = Check.ruled("heats 0;cools 0;far (98<anger)+(99<anger);");
        y.pair(0, 0, 0);
        Check.fill(y, 3, 2, 1);
        Check.due("ANGERS up to 99", y.tells(3, 0, 3), 1);
        Check.due("the least ANGER may be the last", y.tells(3, 0, 4), 99);
        y.cell(3, 0, 2);
        Check.due("ANGERS end with 99", y.tells(3, 0, 3), 0);
        Check.due("the least ANGER of none", y.tells(3, 0, 4), -1);
        x.pair(2, 3, 20);
        Check.fill(x, 3, 2, 14, 9);
        Check.due("NUMBERS of YOUNG", x.tells(3, 4, 2), 64);
        Check.due("the pair stays as it is", x.told(4, 2), 3);
        Check.due("the pair stays as it is", x.told(0, 4), 1);
    }

    private static void textsAndWords() {
        NoViewWithoutQuarrel x = new NoViewWithoutQuarrel();
        x.pair(0, 0, 20);
        Check.text(x, "heats 0;cools 2;far anger;");
        Check.text(x, "heats 0;cools 3;far anger;");
        Check.text(x, "heats 0;cools 3;far anger+bench-1;");
        Check.fill(x, 1, 2, 20);
        Check.due("TEXTS", x.tells(1, 0, 5), 15);
        Check.fill(x, 1, 2, 20, 18);
        Check.due("TEXTS", x.tells(1, 0, 5), 3);
        Check.fill(x, 1, 2, 20, 17);
        Check.due("TEXTS", x.tells(1, 0, 5), 12);
        Check.due("the rule stays", x.count(5), 0);
        Check.due("WORDS", x.tells(1, 0, 6), 0);
        Check.fill(x, 1, 2, 31, 29, 27);
        Check.due("WORDS", x.tells(1, 0, 6), 4);
        x.force(1);
        Check.fill(x, 1, 2, 20, 18);
        Check.due("WORDS that do nothing", x.tells(1, 0, 6), 63);
        x.force(0);
        x.set(3, 0, 30);
        Check.fill(x, 1, 2, 40);
        Check.due("WORDS", x.tells(1, 0, 6), 60);
        Check.due("nothing was told", x.told(0, 5), 0);
        Check.due("nothing was said", x.told(0, 3), 30);
    }

    private static void emptyAndWrongSheets() {
        NoViewWithoutQuarrel x = new NoViewWithoutQuarrel();
        Check.due("tells() without pairs", x.tells(0, 0, 0), -2);
        x.pair(0, 0, 20);
        for (int what = 0; what < 8; what++) {
            Check.due("tells() of a missing sheet", x.tells(2, 0, what), -11);
        }
        Check.due("tells(2, 1, 0)", x.tells(2, 1, 0), -2);
        Check.due("tells(2, -1, 0)", x.tells(2, -1, 0), -2);
        Check.due("tells(2, 0, 8)", x.tells(2, 0, 8), -2);
        Check.due("tells(2, 0, -1)", x.tells(2, 0, -1), -2);
        Check.due("tells(4, 0, 0)", x.tells(4, 0, 0), -2);
        Check.due("tells(-1, 0, 0)", x.tells(-1, 0, 0), -2);
        x.sheet(2, 0, 0);
        int[] due = {-1, 63, 1023, 100, 0, 1, 63, 1};
        for (int what = 0; what < 8; what++) {
            Check.due("tells() of an empty sheet", x.tells(2, 0, what), due[what]);
        }
    }

    private static void films() {
        NoViewWithoutQuarrel x = new NoViewWithoutQuarrel();
        Check.due("film() without pairs", x.film(0, 0, 0), -2);
        x.pair(3, 3, 55);
        x.pair(2, 3, 55);
        x.pair(0, 0, 99);
        for (int pair = 0; pair < 3; pair++) {
            Check.due("film(1, pair, 40)", x.film(1, pair, 40), 40);
            Check.due("tells(1, pair, 0)", x.tells(1, pair, 0), -1);
            Check.due("tells(1, pair, 7)", x.tells(1, pair, 7), 1 << pair);
        }
        Check.due("film() is of bytes", x.pairs(1, 0, 0, 0), 0);
        Check.due("film() has 40 numbers", x.cell(1, 40, 0), -12);
        Check.due("film(1, 0, 1)", x.film(1, 0, 1), 1);
        Check.due("film() has 1 number", x.cell(1, 1, 0), -12);
        Check.due("film(2, 0, 0)", x.film(2, 0, 0), 0);
        Check.due("film() is empty", x.cell(2, 0, 0), -12);
        // Anger 55 50 45 40 35; the text tells 40 at most, of which a YOUNG has 3 less.
        x.film(0, 1, 5);
        Check.fill(x, 3, 0, 37, 37, 37, 37, 32);
        Check.due("film() of YOUNG", x.tells(0, 1, 0), -1);
        Check.due("film() of YOUNG by hand", x.tells(3, 1, 0), -1);
        int[][] wrong = {{4, 0, 0}, {-1, 0, 0}, {0, 3, 0}, {0, -1, 0}, {0, 0, 41}, {0, 0, -1}};
        for (int[] w : wrong) {
            Check.due("film()", x.film(w[0], w[1], w[2]), -2);
        }
        Check.due("a refused film changes nothing", x.cell(0, 4, 0), 1);
        Check.due("nothing was cooled", x.told(1, 3), 55);
    }

    /** A word makes anger its own number here, so that the last word drawn can be read. */
    private static void drawnWords() {
        NoViewWithoutQuarrel x = Check.ruled("heats word-anger;cools 0;far anger;");
        x.pair(0, 0, 40);
        Check.due("drawn(1, 0, 0)", x.drawn(1, 0, 0), 40);
        int z = 1;
        for (int n = 1; n <= 99; n++) {
            z = z * 1103515245 + 12345;
            Check.due("drawn(1, 0, " + n + ")", x.drawn(1, 0, n), (z >>> 9) % 6);
        }
        // 1103527590 / 512 is 2155327, of which 1 is left by sixes.
        Check.due("drawn(1, 0, 1)", x.drawn(1, 0, 1), 1);
        // 12345 / 512 is 24.
        Check.due("drawn(0, 0, 1)", x.drawn(0, 0, 1), 0);
        Check.due("nothing was said", x.told(0, 3), 40);
        Check.due("nothing was told", x.told(0, 5), 0);
        int[][] wrong = {{1, 0}, {-1, 0}, {0, 100}, {0, -1}};
        for (int[] w : wrong) {
            Check.due("drawn()", x.drawn(5, w[0], w[1]), -2);
        }
        NoViewWithoutQuarrel y = new NoViewWithoutQuarrel();
        y.pair(0, 0, 3);
        y.image();
        int due = y.drawn(-77, 0, 4);
        z = -77;
        for (int i = 0; i < 4; i++) {
            z = z * 1103515245 + 12345;
            y.say(0, (z >>> 9) % 6);
        }
        Check.due("drawn() is as if it were said", due, y.told(0, 7));
    }

    private static void chances() {
        NoViewWithoutQuarrel x = Check.ruled("heats word-anger;cools 0;far anger;");
        x.pair(0, 0, 40);
        int[] seeds = {0, 1, -5, Integer.MAX_VALUE - 3, Integer.MIN_VALUE};
        for (int seed : seeds) {
            for (int k = 0; k <= 6; k++) {
                int above = 0;
                for (int m = 1; m <= 20; m++) {
                    above += x.drawn(seed + m - 1, 0, 8) >= k ? 1 : 0;
                    long a = x.chance(seed, m, 0, k, 0);
                    long b = x.chance(seed, m, 0, k, 1);
                    Check.due("chance()", a * m, above * b);
                    Check.due("in lowest terms", greatest(a, b), 1);
                }
            }
        }
        Check.due("chance(0, 20, 0, 40, 0)", x.chance(0, 20, 0, 40, 0), 0);
        Check.due("chance(0, 20, 0, 40, 1)", x.chance(0, 20, 0, 40, 1), 1);
        Check.due("chance(0, 20, 0, 0, 0)", x.chance(0, 20, 0, 0, 0), 1);
        Check.due("chance(0, 20, 0, 0, 1)", x.chance(0, 20, 0, 0, 1), 1);
        x.pair(5, 9, 0);
        Check.due("told(0, 7)", x.told(0, 7), 40);
        Check.due("chance() of another pair", x.chance(0, 1, 1, 36, 0), 1);
        Check.due("chance() of another pair", x.chance(0, 1, 1, 37, 0), 0);
        int[][] wrong = {{0, 0, 0, 0}, {21, 0, 0, 0}, {-1, 0, 0, 0}, {1, 2, 0, 0}, {1, -1, 0, 0}, {1, 0, 41, 0},
            {1, 0, -1, 0}, {1, 0, 0, 2}, {1, 0, 0, -1}};
        for (int[] w : wrong) {
            Check.due("chance()", x.chance(9, w[0], w[1], w[2], w[3]), NO);
        }
    }

    private static long greatest(long a, long b) {
        return b == 0 ? a : greatest(b, a % b);
    }

    private static void images() {
        NoViewWithoutQuarrel x = new NoViewWithoutQuarrel();
        Check.due("back() without an image", x.back(), -3);
        Check.due("image() of nothing", x.image(), 0);
        x.pair(0, 0, 0);
        Check.due("back()", x.back(), 0);
        Check.due("count(0)", x.count(0), 0);
        x.pair(1, 2, 3);
        x.pair(2, 3, 4);
        x.say(1, 0);
        x.set(0, 0, 7);
        x.set(1, 8, 1);
        Check.text(x, "heats 1;cools 1;far 1;");
        x.force(1);
        Check.due("image()", x.image(), 2);
        Check.text(x, "heats 2;cools 2;far 2;");
        Check.feed(x, "heats");
        x.force(2);
        x.set(0, 0, 8);
        x.set(1, 8, 0);
        x.set(1, 9, 1);
        x.set(2, 0, 9);
        x.set(3, 0, 9);
        x.say(1, 0);
        x.pair(5, 5, 5);
        x.sheet(0, 1, 7);
        for (int i = 0; i < 2; i++) {
            Check.due("back()", x.back(), 2);
            Check.due("count(0)", x.count(0), 2);
            Check.due("count(2)", x.count(2), 1);
            Check.due("count(3) is not kept", x.count(3), 3);
            Check.due("count(4) is not kept", x.count(4), 5);
            Check.due("count(5)", x.count(5), 1);
            Check.due("sheets are not kept", x.cell(0, 6, 1), 1);
            int[][] due = {{7, 0, 2, 3, 1, 0}, {7, 0, 3, 6, 2, 1}};
            for (int pair = 0; pair < 2; pair++) {
                for (int what = 0; what < 6; what++) {
                    Check.due("told(pair, " + what + ")", x.told(pair, what), due[pair][what]);
                }
            }
            Check.due("told(8, 1)", x.told(8, 1), 1);
            Check.due("told(9, 1)", x.told(9, 1), 0);
            Check.due("pair() behind back()", x.pair(4, 1, 2), 2);
            Check.due("told(2, 5)", x.told(2, 5), 0);
            x.say(2, 0);
            x.quiet(3);
        }
    }

    private static void counts() {
        NoViewWithoutQuarrel x = new NoViewWithoutQuarrel();
        Check.due("count(-1)", x.count(-1), -2);
        Check.due("count(6)", x.count(6), -2);
        x.pair(0, 0, 0);
        x.pair(5, 0, 0);
        x.set(1, 0, 7);
        x.set(1, 39, 7);
        x.set(1, 20, 1);
        x.say(0, 0);
        x.say(1, 0);
        x.say(1, 0);
        x.say(1, 0);
        Check.text(x, "heats 1;cools 1;far 1;");
        x.force(1);
        x.feed(0);
        int[] due = {2, 3, 4, 2, 1, 1};
        for (int what = 0; what < 6; what++) {
            Check.due("count(" + what + ")", x.count(what), due[what]);
        }
    }
}
