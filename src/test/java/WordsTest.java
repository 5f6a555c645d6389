/** Promises 12 to 16: fewest, words, stays, rows, whom. */
public final class WordsTest {
    private static final long NO = NoViewWithoutQuarrel.NO;

    public static void main(String[] args) {
        fewestWords();
        longRows();
        peaceAndReach();
        bestWord();
        staying();
        countedRows();
        enumeratedRows();
        whom();
        wrongs();
        Check.end();
    }

    private static void fewestWords() {
        NoViewWithoutQuarrel x = new NoViewWithoutQuarrel();
        x.pair(0, 0, 10);
        Check.due("fewest(0, 0, 0)", x.fewest(0, 0, 0), 0);
        Check.due("fewest(0, 10, 0)", x.fewest(0, 10, 0), 0);
        Check.due("fewest(0, 10, 1)", x.fewest(0, 10, 1), 0);
        Check.due("fewest(0, 11, 0)", x.fewest(0, 11, 0), 1);
        Check.due("fewest(0, 11, 1)", x.fewest(0, 11, 1), 1);
        Check.due("fewest(0, 30, 1)", x.fewest(0, 30, 1), 6);
        Check.due("fewest(0, 31, 0)", x.fewest(0, 31, 0), 2);
        Check.due("fewest(0, 31, 1)", x.fewest(0, 31, 1), 15);
        Check.due("fewest(0, 40, 1)", x.fewest(0, 40, 1), 36);
        Check.due("nothing was said", x.told(0, 3), 10);
        // A word that makes it less is needed first: from 30 only a 0 leads up.
        NoViewWithoutQuarrel y = Check.ruled("heats (0<anger)*-10+(anger=0)*(word=4)*40;cools 0;far anger;");
        y.pair(0, 0, 30);
        Check.due("fewest by way of peace", y.fewest(0, 40, 0), 4);
        Check.due("the row by way of peace", y.fewest(0, 40, 1), 1115);
        Check.due("fewest(0, 30, 0)", y.fewest(0, 30, 0), 0);
        NoViewWithoutQuarrel z = new NoViewWithoutQuarrel();
        z.pair(2, 9, 0);
        Check.due("fewest(0, 31, 0) as far as YOUNG comes", z.fewest(0, 31, 0), 4);
        Check.due("fewest(0, 32, 0) never", z.fewest(0, 32, 0), -1);
        Check.due("fewest(0, 32, 1) never", z.fewest(0, 32, 1), -1);
    }

    private static void longRows() {
        NoViewWithoutQuarrel x = Check.ruled("heats word=2;cools 0;far anger;");
        x.pair(0, 0, 5);
        Check.due("fewest of nine words", x.fewest(0, 14, 0), 9);
        Check.due("a row of nine words", x.fewest(0, 14, 1), 333333333);
        Check.due("fewest of ten words", x.fewest(0, 15, 0), 10);
        Check.due("a row of ten words", x.fewest(0, 15, 1), -1);
        Check.due("fewest(0, 40, 0)", x.fewest(0, 40, 0), 35);
        x.set(3, 0, 0);
        NoViewWithoutQuarrel y = Check.ruled("heats word=5;cools 0;far anger-59;");
        y.pair(0, 0, 0);
        Check.due("fewest of very many", y.fewest(0, 40, 0), 99);
    }

    private static void peaceAndReach() {
        NoViewWithoutQuarrel x = new NoViewWithoutQuarrel();
        x.pair(0, 0, 0);
        x.pair(0, 0, 1);
        x.pair(4, 0, 19);
        x.pair(5, 0, 44);
        Check.due("words(0, 0)", x.words(0, 0), 0);
        Check.due("words(1, 0)", x.words(1, 0), -1);
        Check.due("words(2, 0)", x.words(2, 0), 2);
        Check.due("words(2, 1)", x.words(2, 1), 3);
        Check.due("words(2, 2)", x.words(2, 2), 0);
        Check.due("words(2, 3)", x.words(2, 3), 19);
        Check.due("words(3, 1)", x.words(3, 1), 1);
        Check.due("words(3, 2)", x.words(3, 2), 44);
        Check.due("words(3, 3)", x.words(3, 3), 44);
        Check.due("words(1, 2)", x.words(1, 2), 1);
        Check.due("words(1, 3)", x.words(1, 3), 99);
        NoViewWithoutQuarrel y = Check.ruled("heats word*20-50;cools 0;far 0;");
        y.pair(0, 0, 50);
        Check.due("words(0, 0)", y.words(0, 0), 1);
        y.set(3, 0, 51);
        Check.due("words(0, 0)", y.words(0, 0), 2);
        y.set(3, 0, 99);
        // 9, 19, .. 99, and, by way of 0, also 0, 10, .. 90.
        Check.due("words(0, 1)", y.words(0, 1), 20);
    }

    private static void bestWord() {
        NoViewWithoutQuarrel x = new NoViewWithoutQuarrel();
        x.pair(1, 3, 0);
        x.pair(0, 0, 39);
        Check.due("words(0, 4) of WED", x.words(0, 4), 3);
        Check.due("words(0, 5) of WED", x.words(0, 5), 28);
        Check.due("words(1, 4), the first of like ones", x.words(1, 4), 0);
        Check.due("words(1, 5)", x.words(1, 5), 40);
        x.pair(0, 0, 0);
        Check.due("words(2, 4), the last of all", x.words(2, 4), 5);
        Check.due("words(2, 5)", x.words(2, 5), 20);
        NoViewWithoutQuarrel y = Check.ruled("heats word*10;cools 0;far 40-anger;");
        y.pair(0, 0, 10);
        Check.due("words(0, 4) by which least is lost", y.words(0, 4), 0);
        Check.due("words(0, 5)", y.words(0, 5), 30);
    }

    private static void staying() {
        NoViewWithoutQuarrel x = new NoViewWithoutQuarrel();
        x.pair(0, 0, 10);
        x.pair(5, 5, 0);
        Check.due("stays(0, 10)", x.stays(0, 10), 0);
        Check.due("stays(0, 9)", x.stays(0, 9), 1);
        Check.due("stays(0, 8)", x.stays(0, 8), 1);
        Check.due("stays(0, 7)", x.stays(0, 7), 2);
        Check.due("stays(0, 0)", x.stays(0, 0), 5);
        Check.due("stays(1, 19)", x.stays(1, 19), 100);
        Check.due("stays(1, 20)", x.stays(1, 20), 0);
        // Seen at 99 .. 0: a hundred minutes, or ninety-nine.
        NoViewWithoutQuarrel y = Check.ruled("heats 0;cools 1;far 1+(0<anger);");
        y.pair(0, 0, 99);
        Check.due("stays(0, 0)", y.stays(0, 0), 100);
        Check.due("stays(0, 1)", y.stays(0, 1), 99);
        // Where it can't be seen and then can again, the first gap ends it.
        NoViewWithoutQuarrel z = Check.ruled("heats 0;cools 10;far (anger=50)*40+(anger<30)*40;");
        z.pair(0, 0, 50);
        Check.due("stays(0, 5)", z.stays(0, 5), 1);
        Check.due("nothing was cooled", z.told(0, 3), 50);
    }

    private static void countedRows() {
        NoViewWithoutQuarrel x = new NoViewWithoutQuarrel();
        x.pair(0, 0, 10);
        Check.due("rows(0, 10, 0, 0)", x.rows(0, 10, 0, 0), 1);
        Check.due("rows(0, 10, 0, 1)", x.rows(0, 10, 0, 1), 1);
        Check.due("rows(0, 11, 0, 0)", x.rows(0, 11, 0, 0), 0);
        Check.due("rows(0, 11, 0, 1)", x.rows(0, 11, 0, 1), 1);
        Check.due("rows(0, 24, 1, 0)", x.rows(0, 24, 1, 0), 1);
        Check.due("rows(0, 24, 1, 1)", x.rows(0, 24, 1, 1), 2);
        Check.due("rows(0, 27, 1, 0)", x.rows(0, 27, 1, 0), 1);
        Check.due("rows(0, 27, 1, 1)", x.rows(0, 27, 1, 1), 3);
        Check.due("rows(0, 40, 20, 0)", x.rows(0, 40, 20, 0), 1);
        // One word of six is said n times: seen n miles further by one row alone.
        NoViewWithoutQuarrel y = Check.ruled("heats word=0;cools 0;far anger;");
        y.pair(0, 0, 0);
        Check.due("rows(0, 20, 20, 0)", y.rows(0, 20, 20, 0), 1);
        Check.due("rows(0, 20, 20, 1)", y.rows(0, 20, 20, 1), 3656158440062976L);
        Check.due("rows(0, 1, 20, 0)", y.rows(0, 1, 20, 0), 3656158440062976L - 95367431640625L);
        Check.due("rows(0, 1, 20, 1)", y.rows(0, 1, 20, 1), 3656158440062976L);
        Check.due("rows(0, 21, 20, 0)", y.rows(0, 21, 20, 0), 0);
        Check.due("rows(0, 21, 20, 1)", y.rows(0, 21, 20, 1), 1);
    }

    /** All rows of four words, said truly to a pair of each kind. */
    private static void enumeratedRows() {
        for (int kind = 0; kind < 6; kind++) {
            NoViewWithoutQuarrel x = Check.ruled("heats word*9-20+(anger<9)*number;cools 0;far anger;");
            x.pair(kind, 4, 21);
            long[] seen = new long[41];
            for (int row = 0; row < 1296; row++) {
                x.set(3, 0, 21);
                int rest = row;
                for (int i = 0; i < 4; i++) {
                    x.say(0, rest % 6);
                    rest /= 6;
                }
                for (int k = 0; k <= x.told(0, 7); k++) {
                    seen[k]++;
                }
            }
            x.set(3, 0, 21);
            for (int k = 0; k <= 40; k++) {
                long above = x.rows(0, k, 4, 0);
                long below = x.rows(0, k, 4, 1);
                Check.due("rows() of kind " + kind + ", " + k, above * 1296, seen[k] * below);
                Check.due("a divisor of 1296", 1296 % below, 0);
            }
        }
    }

    private static void whom() {
        NoViewWithoutQuarrel x = new NoViewWithoutQuarrel();
        Check.due("whom(0, 0) without pairs", x.whom(0, 0), -1);
        Check.due("whom(0, 1) without pairs", x.whom(0, 1), -1);
        x.pair(5, 2, 0);
        x.pair(0, 0, 0);
        x.pair(0, 0, 5);
        Check.due("whom(7, 0)", x.whom(7, 0), 0);
        Check.due("whom(7, 1)", x.whom(7, 1), 0);
        Check.due("whom(8, 0), of like ones the first", x.whom(8, 0), 1);
        Check.due("whom(8, 1)", x.whom(8, 1), 1);
        Check.due("whom(20, 0)", x.whom(20, 0), 2);
        Check.due("whom(20, 1)", x.whom(20, 1), 1);
        Check.due("whom(39, 0)", x.whom(39, 0), 1);
        Check.due("whom(39, 1)", x.whom(39, 1), 2);
        NoViewWithoutQuarrel y = new NoViewWithoutQuarrel();
        y.pair(5, 2, 0);
        Check.due("whom(8, 0) never", y.whom(8, 0), -1);
        Check.due("whom(8, 1) never", y.whom(8, 1), -1);
    }

    private static void wrongs() {
        NoViewWithoutQuarrel x = new NoViewWithoutQuarrel();
        x.pair(0, 0, 0);
        int[][] fewest = {{1, 0, 0}, {-1, 0, 0}, {0, -1, 0}, {0, 41, 0}, {0, 0, -1}, {0, 0, 2}};
        for (int[] w : fewest) {
            Check.due("fewest()", x.fewest(w[0], w[1], w[2]), -2);
        }
        int[][] two = {{1, 0}, {-1, 0}, {0, -1}};
        for (int[] w : two) {
            Check.due("words()", x.words(w[0], w[1]), -2);
            Check.due("stays()", x.stays(w[0], w[1]), -2);
        }
        Check.due("words(0, 6)", x.words(0, 6), -2);
        Check.due("stays(0, 40)", x.stays(0, 40), -2);
        int[][] rows = {{1, 0, 0, 0}, {-1, 0, 0, 0}, {0, -1, 0, 0}, {0, 41, 0, 0}, {0, 0, -1, 0}, {0, 0, 21, 0},
            {0, 0, 0, -1}, {0, 0, 0, 2}};
        for (int[] w : rows) {
            Check.due("rows()", x.rows(w[0], w[1], w[2], w[3]), NO);
        }
        int[][] whom = {{-1, 0}, {40, 0}, {0, -1}, {0, 2}};
        for (int[] w : whom) {
            Check.due("whom()", x.whom(w[0], w[1]), -2);
        }
    }
}
