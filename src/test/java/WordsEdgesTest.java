/** The edges of promises 12 to 16: fewest, words, stays, rows, whom. */
public final class WordsEdgesTest {
    /** 6 times itself 20 times, and 5 so. */
    private static final long ALL_ROWS = 3656158440062976L, ROWS_WITHOUT_ONE = 95367431640625L;
    private static final String[] NO_PAIRS = {"-1", "3", "5", "MIN", "MAX"};

    public static void main(String[] args) {
        fewestRefused();
        fewestMiles();
        fewestNever();
        nineWords();
        digitsOfARow();
        firstRow();
        wordsRefused();
        peace();
        reached();
        reachedApart();
        bestWord();
        staysRefused();
        staysMinutes();
        staysMiles();
        rowsRefused();
        rowsOfNone();
        rowsOfMost();
        rowsMiles();
        lowestTerms();
        whomRefused();
        whomNone();
        whomFirst();
        withoutPairs();
        asksOnly();
        Check.end();
    }

    private static void fewestRefused() {
        Run run = Run.lively("fewest(): BAD");
        for (String pair : NO_PAIRS) {
            run.then("fewest " + pair + " 0 0 ! BAD", "fewest " + pair + " 0 1 ! BAD");
        }
        for (String k : new String[] {"-1", "41", "MIN", "MAX"}) {
            run.then("fewest 0 " + k + " 0 ! BAD", "fewest 0 " + k + " 1 ! BAD");
        }
        for (String what : new String[] {"-1", "2", "MIN", "MAX"}) {
            run.then("fewest 0 0 " + what + " ! BAD");
        }
    }

    private static void fewestMiles() {
        new Run("FEWEST (k 0 .. 40): SEES k MILES or more", "pair 0 0 0 = 0", "fewest 0 0 0 = 0", "fewest 0 0 1 = 0",
            "fewest 0 1 0 = 1", "fewest 0 1 1 = 1", "fewest 0 40 0 = 2", "fewest 0 40 1 = 66", "fewest 0 20 0 = 1",
            "fewest 0 20 1 = 6", "fewest 0 21 0 = 2", "fewest 0 21 1 = 15");
        new Run("the row, 0: it SEES so far", "pair 0 0 39 = 0", "fewest 0 39 0 = 0", "fewest 0 39 1 = 0",
            "fewest 0 40 0 = 1", "fewest 0 40 1 = 1", "set 3 0 40 = 39", "fewest 0 40 0 = 0", "fewest 0 40 1 = 0");
    }

    private static void fewestNever() {
        new Run("NONE: never", "pair 5 9 0 = 0", "fewest 0 36 0 = 0", "fewest 0 36 1 = 0", "fewest 0 37 0 = NONE",
            "fewest 0 37 1 = NONE", "fewest 0 40 0 = NONE", "fewest 0 40 1 = NONE", "set 2 0 0 = 9", "fewest 0 0 0 = 0",
            "fewest 0 0 1 = 0", "fewest 0 1 0 = NONE", "fewest 0 1 1 = NONE");
        new Run("NONE: never, of a YOUNG", "pair 2 1 0 = 0", "fewest 0 39 0 = 4", "fewest 0 40 0 = NONE");
    }

    /** Each 5 makes it 1 more, so that k MILES are k words away. */
    private static void nineWords() {
        new Run("the row: 9 WORDS at most, else NONE").rule("word=5", "0", "anger").then("pair 0 0 0 = 0",
            "fewest 0 1 1 = 6", "fewest 0 8 1 = 66666666", "fewest 0 9 0 = 9", "fewest 0 9 1 = 666666666",
            "fewest 0 10 0 = 10", "fewest 0 10 1 = NONE", "fewest 0 40 0 = 40", "fewest 0 40 1 = NONE", "set 3 0 1 = 0",
            "fewest 0 10 0 = 9", "fewest 0 10 1 = 666666666", "fewest 0 11 0 = 10", "fewest 0 11 1 = NONE");
        new Run("as many WORDS as there are ANGERS").rule("word=0", "0", "anger-98").then("pair 0 0 0 = 0",
            "fewest 0 1 0 = 99", "fewest 0 1 1 = NONE", "fewest 0 2 0 = NONE");
    }

    private static void digitsOfARow() {
        for (int word = 0; word < 6; word++) {
            new Run("digits: 1 more than each").rule("(word=" + word + ")*9", "0", "anger").then("pair 0 0 0 = 0",
                "fewest 0 9 1 = " + (word + 1), "fewest 0 18 1 = " + 11 * (word + 1),
                "fewest 0 27 1 = " + 111 * (word + 1));
        }
        // Only 1, then 4, then 2 leads up: 0, 10, 20, 30.
        new Run("digits: the first the highest")
            .rule("(anger=0)*(word=1)*10+(anger=10)*(word=4)*10+(anger=20)*(word=2)*10", "0", "anger")
            .then("pair 0 0 0 = 0", "fewest 0 30 0 = 3", "fewest 0 30 1 = 253", "fewest 0 20 1 = 25",
            "fewest 0 10 1 = 2");
    }

    private static void firstRow() {
        new Run("the first such row").rule("10", "0", "anger").then("pair 0 0 0 = 0", "fewest 0 40 0 = 4",
            "fewest 0 40 1 = 1111");
        // Words make it 5, 8, 11, 14, 17, 20 more: 25 is come to by 5 and 20, 26 not before 8 and 20.
        new Run("the first such row, of unlike sums", "pair 0 0 0 = 0", "fewest 0 26 1 = 26", "fewest 0 25 1 = 16",
            "fewest 0 40 1 = 66", "fewest 0 38 1 = 66", "fewest 0 37 1 = 56");
        // The fewest go by 3 at once, though rows of more words begin lower.
        new Run("fewest ahead of first").rule("(word=0)*20+(word=3)*40", "0", "anger").then("pair 0 0 0 = 0",
            "fewest 0 40 0 = 1", "fewest 0 40 1 = 4", "fewest 0 20 1 = 1");
    }

    private static void wordsRefused() {
        Run run = Run.lively("words(): BAD");
        for (String pair : NO_PAIRS) {
            run.then("words " + pair + " 0 ! BAD", "words " + pair + " 5 ! BAD");
        }
        for (String what : new String[] {"-1", "6", "MIN", "MAX"}) {
            run.then("words 0 " + what + " ! BAD");
        }
    }

    private static void peace() {
        new Run("PEACE: the least number by which ANGER is 0; NONE", "pair 0 0 0 = 0", "words 0 0 = 0", "set 3 0 1 = 0",
            "words 0 0 = NONE", "set 3 0 99 = 1", "words 0 0 = NONE", "pair 5 0 0 = 1", "words 1 0 = 0",
            "pair 4 0 10 = 2", "words 2 0 = 1", "set 3 2 11 = 10", "words 2 0 = 2", "set 3 2 19 = 11", "words 2 0 = 2",
            "set 3 2 20 = 19", "words 2 0 = NONE");
        new Run("PEACE by very many").rule("0-1", "0", "0").then("pair 0 0 99 = 0", "words 0 0 = 99", "pair 3 0 1 = 1",
            "words 1 0 = NONE");
    }

    private static void reached() {
        new Run("REACHED: how many, the least, the most: one alone", "pair 5 0 0 = 0", "pair 5 0 99 = 1",
            "words 0 1 = 1", "words 0 2 = 0", "words 0 3 = 0", "words 1 1 = 1", "words 1 2 = 99", "words 1 3 = 99",
            "pair 0 0 99 = 2", "words 2 1 = 1", "words 2 2 = 99", "words 2 3 = 99");
        new Run("REACHED: all").rule("word-1", "0", "0").then("pair 0 0 0 = 0", "pair 0 0 99 = 1", "pair 0 0 50 = 2",
            "words 0 1 = 100", "words 0 2 = 0", "words 0 3 = 99", "words 1 1 = 100", "words 1 2 = 0", "words 1 3 = 99",
            "words 2 1 = 100");
        new Run("REACHED with what stands").rule("99", "0", "0").then("pair 0 0 7 = 0", "words 0 1 = 2",
            "words 0 2 = 7", "words 0 3 = 99", "pair 0 0 98 = 1", "words 1 1 = 2", "words 1 2 = 98");
    }

    /** What one pair comes to stands for no other. */
    private static void reachedApart() {
        // Of 0 .. 99 all but 1, 2, 3, 4, 6, 7, 9 and 12 are sums of 5, 8, 11, 14, 17, 20, or end at 99.
        new Run("REACHED of each PAIR", "pair 0 0 0 = 0", "pair 5 3 7 = 1", "words 0 1 = 92", "words 0 3 = 99",
            "words 1 1 = 1", "words 1 2 = 7", "words 1 3 = 7", "words 0 2 = 0", "words 1 2 = 7", "words 1 0 = NONE",
            "fewest 0 40 0 = 2", "fewest 1 40 0 = NONE", "fewest 1 40 1 = NONE", "rows 0 40 20 0 = 1",
            "rows 1 40 20 0 = 0", "rows 1 12 20 0 = 1", "clear 1 = 0", "words 1 1 = 1");
        new Run("REACHED of each PAIR, the most", "pair 0 0 50 = 0", "pair 5 3 7 = 1", "words 0 3 = 99",
            "words 1 3 = 7", "words 0 2 = 50", "words 1 2 = 7");
        new Run("ROWS of each PAIR", "pair 0 0 0 = 0", "pair 5 3 5 = 1", "rows 0 0 20 0 = 1", "rows 1 12 20 0 = 1",
            "rows 1 12 20 1 = 1", "rows 1 13 20 0 = 0");
    }

    private static void bestWord() {
        Run like = new Run("BEST WORD: of like ones the first", "pair 5 9 0 = 0", "words 0 4 = 0", "words 0 5 = 36",
            "pair 0 0 40 = 1", "words 1 4 = 0", "words 1 5 = 40", "pair 0 0 35 = 2", "words 2 4 = 0", "words 2 5 = 40",
            "pair 0 0 34 = 3", "words 3 4 = 1", "words 3 5 = 40");
        like.then("pair 0 0 20 = 4", "words 4 4 = 5", "words 4 5 = 40");
        for (int word = 0; word < 6; word++) {
            new Run("BEST WORD: that by which FAR would be most at once").rule("(word=" + word + ")*9", "0", "anger")
                .then("pair 0 0 1 = 0", "words 0 4 = " + word, "words 0 5 = 10");
            new Run("BEST WORD, where all are less").rule("(word=" + word + ")-9", "0", "anger").then("pair 0 0 30 = 0",
                "words 0 4 = " + word, "words 0 5 = 22");
        }
        new Run("BEST WORD: WORDS 0 .. 5", "pair 0 0 0 = 0", "words 0 4 = 5", "words 0 5 = 20");
        new Run("BEST WORD, where none clears anything", "pair 4 9 0 = 0", "words 0 4 = 0", "words 0 5 = 0");
    }

    private static void staysRefused() {
        Run run = Run.lively("stays(): BAD");
        for (String pair : NO_PAIRS) {
            run.then("stays " + pair + " 0 ! BAD");
        }
        for (String mile : new String[] {"-1", "40", "MIN", "MAX"}) {
            run.then("stays 0 " + mile + " ! BAD");
        }
    }

    private static void staysMinutes() {
        // Anger 1 less each minute; mile 0 is seen while it is above 0.
        Run run = new Run("STAYS: how many MINUTES (0: not now)").rule("0", "1", "anger").then("pair 0 0 0 = 0",
            "stays 0 0 = 0");
        for (int anger : new int[] {1, 2, 98, 99}) {
            run.then("set 3 0 " + anger + " = " + (anger == 1 ? 0 : anger == 2 ? 1 : anger == 98 ? 2 : 98),
                "stays 0 0 = " + anger);
        }
        new Run("STAYS (100: 100 or more)").rule("0", "1", "1").then("pair 0 0 99 = 0", "stays 0 0 = 100",
            "stays 0 1 = 0");
        // Seen behind 99 minutes, too, which makes a hundred; not so behind a hundredth that was not asked.
        new Run("STAYS 99 or 100").rule("0", "1", "1+(0<anger)").then("pair 0 0 99 = 0", "stays 0 1 = 99",
            "stays 0 0 = 100");
        new Run("STAYS of one that never cools", "pair 3 0 51 = 0", "pair 3 0 50 = 1", "stays 0 39 = 100",
            "stays 1 39 = 16", "stays 1 0 = 100");
        new Run("STAYS: yet, not again").rule("0", "10", "(anger=50)*40+(anger<30)*40").then("pair 0 0 50 = 0",
            "stays 0 39 = 1", "set 3 0 40 = 50", "stays 0 39 = 0", "set 3 0 29 = 40", "stays 0 39 = 100");
    }

    private static void staysMiles() {
        new Run("STAYS (a MILE 0 .. 39)", "pair 0 0 40 = 0", "stays 0 39 = 1", "stays 0 38 = 1", "stays 0 37 = 2",
            "stays 0 0 = 20", "set 3 0 39 = 40", "stays 0 39 = 0", "stays 0 38 = 1", "stays 0 0 = 20");
    }

    private static void rowsRefused() {
        Run run = Run.lively("rows(): NO");
        for (String pair : NO_PAIRS) {
            run.then("rows " + pair + " 0 0 0 ! NO");
        }
        for (String k : new String[] {"-1", "41", "MIN", "MAX"}) {
            run.then("rows 0 " + k + " 0 0 ! NO", "rows 0 " + k + " 0 1 ! NO");
        }
        for (String n : new String[] {"-1", "21", "MIN", "MAX"}) {
            run.then("rows 0 0 " + n + " 0 ! NO", "rows 0 0 " + n + " 1 ! NO");
        }
        for (String part : new String[] {"-1", "2", "MIN", "MAX"}) {
            run.then("rows 0 0 0 " + part + " ! NO");
        }
    }

    private static void rowsOfNone() {
        new Run("ROWS (n 0): one row, of no WORD", "pair 0 0 20 = 0", "rows 0 20 0 0 = 1", "rows 0 20 0 1 = 1",
            "rows 0 21 0 0 = 0", "rows 0 21 0 1 = 1", "rows 0 0 0 0 = 1", "rows 0 40 0 0 = 0", "set 3 0 40 = 20",
            "rows 0 40 0 0 = 1");
    }

    private static void rowsOfMost() {
        // By each 2 one mile more: all but those rows without a 2, and one row alone of nothing but 2.
        new Run("ROWS (n 20)").rule("word=2", "0", "anger").then("pair 0 0 0 = 0", "rows 0 0 20 0 = 1",
            "rows 0 0 20 1 = 1", "rows 0 1 20 0 = " + (ALL_ROWS - ROWS_WITHOUT_ONE), "rows 0 1 20 1 = " + ALL_ROWS,
            "rows 0 20 20 0 = 1", "rows 0 20 20 1 = " + ALL_ROWS, "rows 0 21 20 0 = 0", "rows 0 21 20 1 = 1",
            "rows 0 19 20 0 = 101", "rows 0 19 20 1 = " + ALL_ROWS, "rows 0 19 19 0 = 1",
            "rows 0 19 19 1 = " + ALL_ROWS / 6, "rows 0 20 19 0 = 0");
    }

    private static void rowsMiles() {
        new Run("ROWS (k 0 .. 40): SEES k MILES or more then", "pair 0 0 20 = 0", "rows 0 40 1 0 = 1",
            "rows 0 40 1 1 = 6", "rows 0 39 1 0 = 1", "rows 0 39 1 1 = 6", "rows 0 37 1 0 = 1", "rows 0 37 1 1 = 3",
            "rows 0 25 1 0 = 1", "rows 0 25 1 1 = 1", "rows 0 26 1 0 = 5", "rows 0 26 1 1 = 6", "rows 0 0 1 0 = 1",
            "set 3 0 19 = 20", "rows 0 40 1 0 = 0", "rows 0 40 1 1 = 1");
        // SEEN on the way, but not then: 20 by a first 0, gone by a second.
        new Run("ROWS: then").rule("(anger=0)*20-(0<anger)*20", "0", "anger").then("pair 0 0 0 = 0",
            "rows 0 20 1 0 = 1", "rows 0 20 2 0 = 0", "rows 0 20 3 0 = 1", "rows 0 20 20 0 = 0", "rows 0 20 19 0 = 1");
    }

    private static void lowestTerms() {
        int[][] due = {{0, 1}, {1, 6}, {1, 3}, {1, 2}, {2, 3}, {5, 6}, {1, 1}};
        for (int words = 0; words <= 6; words++) {
            new Run("part 0 above, 1 below the line, in lowest terms").rule("(word<" + words + ")*9", "0", "anger")
                .then("pair 0 0 0 = 0", "rows 0 9 1 0 = " + due[words][0], "rows 0 9 1 1 = " + due[words][1]);
        }
        new Run("in lowest terms, of two WORDS").rule("word=0", "0", "anger").then("pair 0 0 0 = 0",
            "rows 0 1 2 0 = 11", "rows 0 1 2 1 = 36", "rows 0 2 2 0 = 1", "rows 0 2 2 1 = 36", "rows 0 2 3 0 = 2",
            "rows 0 2 3 1 = 27");
    }

    private static void whomRefused() {
        Run run = Run.lively("whom(): BAD");
        for (String mile : new String[] {"-1", "40", "MIN", "MAX"}) {
            run.then("whom " + mile + " 0 ! BAD", "whom " + mile + " 1 ! BAD");
        }
        for (String what : new String[] {"-1", "2", "MIN", "MAX"}) {
            run.then("whom 0 " + what + " ! BAD");
        }
    }

    private static void whomNone() {
        new Run("WHOM: NONE", "whom 0 0 = NONE", "whom 0 1 = NONE", "whom 39 0 = NONE", "pair 5 0 0 = 0",
            "whom 0 0 = NONE", "whom 0 1 = NONE", "pair 5 9 0 = 1", "whom 35 0 = 1", "whom 35 1 = 0",
            "whom 36 0 = NONE", "whom 36 1 = NONE", "pair 0 0 39 = 2", "whom 38 0 = 2", "whom 38 1 = 0",
            "whom 39 0 = 2", "whom 39 1 = 1");
    }

    private static void whomFirst() {
        new Run("WHOM: needs fewest WORDS; of like ones the first", "pair 0 0 0 = 0", "pair 0 0 0 = 1", "whom 0 0 = 0",
            "whom 0 1 = 1", "whom 39 0 = 0", "whom 39 1 = 2", "set 3 1 1 = 0", "whom 0 0 = 1", "whom 0 1 = 0",
            "whom 1 0 = 0", "whom 1 1 = 1", "pair 0 0 99 = 2", "pair 0 0 99 = 3", "pair 0 0 99 = 4", "whom 39 0 = 2",
            "whom 39 1 = 0", "set 3 2 0 = 99", "whom 39 0 = 3", "set 3 3 0 = 99", "whom 39 0 = 4", "whom 0 0 = 1");
    }

    private static void withoutPairs() {
        new Run("without PAIRS", "fewest 0 0 0 ! BAD", "words 0 0 ! BAD", "stays 0 0 ! BAD", "rows 0 0 0 0 ! NO");
        new Run("the last PAIR of a full bench", "pair 0 0 0 = 0", "pair 0 0 0 = 1", "pair 0 0 0 = 2", "pair 0 0 0 = 3",
            "pair 5 9 7 = 4", "fewest 4 36 0 = 0", "words 4 5 = 36", "stays 4 35 = 100", "rows 4 36 20 0 = 1",
            "fewest 5 0 0 ! BAD", "words 5 0 ! BAD", "stays 5 0 ! BAD", "rows 5 0 0 0 ! NO");
    }

    private static void asksOnly() {
        // A WED, number 3, anger 48, by word * 4 - 7: 5 is twice at word 3; FAR is ANGER less 5.
        Run.lively("what is asked changes nothing").then("fewest 0 40 0 ! 0", "fewest 0 40 1 ! 0",
            "fewest 2 30 0 ! NONE", "words 0 4 ! 1", "words 0 5 ! 40", "stays 0 39 ! 2", "rows 0 40 1 0 ! 5",
            "rows 0 40 1 1 ! 6", "whom 39 0 ! 0", "whom 39 1 ! 0", "words 0 0 ! 7", "words 0 1 ! 100", "words 0 2 ! 0",
            "words 0 3 ! 99");
    }
}
