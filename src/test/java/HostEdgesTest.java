/** The edges of promises 24 to 28: sheet, cell, copy, pairs, taken. */
public final class HostEdgesTest {
    private static final String[] NO_SHEETS = {"-1", "4", "MIN", "MAX"};

    public static void main(String[] args) {
        sheetRefused();
        sheetSizes();
        sheetBelowNothing();
        sheetMissing();
        sheetAllZero();
        sheetsApart();
        cellRefused();
        cellPlaces();
        cellBits();
        copyRefused();
        copyOrder();
        copyPlaces();
        copyBelowNothing();
        copyOfNone();
        copyAsTheyWere();
        copyAll();
        pairsRefused();
        pairsOrder();
        pairsOfNone();
        pairsPlaces();
        pairsWhatStoodAhead();
        pairsLeftOut();
        pairsFull();
        pairsOfSorts();
        takenRefused();
        takenKinds();
        Check.end();
    }

    private static void sheetRefused() {
        Run run = Run.lively("sheet(): BAD: no such SHEET, sort; n above 40");
        for (String sheet : NO_SHEETS) {
            run.then("sheet " + sheet + " 0 1 ! BAD", "sheet " + sheet + " -1 0 ! BAD",
                "sheet " + sheet + " 0 -1 ! BAD");
        }
        for (String sort : new String[] {"-2", "3", "MIN", "MAX"}) {
            run.then("sheet 0 " + sort + " 1 ! BAD", "sheet 0 " + sort + " -1 ! BAD", "sheet 3 " + sort + " 1 ! BAD");
        }
        for (int sort = 0; sort < 3; sort++) {
            run.then("sheet 0 " + sort + " 41 ! BAD", "sheet 0 " + sort + " MAX ! BAD",
                "sheet 3 " + sort + " 41 ! BAD");
        }
    }

    private static void sheetSizes() {
        for (int sort = 0; sort < 3; sort++) {
            for (int sheet = 0; sheet < 4; sheet += 3) {
                String made = "sheet " + sheet + " " + sort;
                new Run("A SHEET becomes a row of n (0 .. 40): 1", made + " 0 = 1", "cell " + sheet + " 0 1 ! -12",
                    made + " 1 = 1", "cell " + sheet + " 0 1 = 1", "cell " + sheet + " 1 1 ! -12", made + " 39 = 1",
                    "cell " + sheet + " 38 1 = 1", "cell " + sheet + " 39 1 ! -12", made + " 40 = 1",
                    "cell " + sheet + " 39 1 = 1", "cell " + sheet + " 40 1 ! -12");
            }
        }
    }

    private static void sheetBelowNothing() {
        Run run = Run.lively("-14: a size below 0");
        for (int sort = 0; sort < 3; sort++) {
            run.then("sheet 0 " + sort + " -1 ! -14", "sheet 3 " + sort + " -1 ! -14",
                "sheet 2 " + sort + " MIN ! -14");
        }
    }

    private static void sheetMissing() {
        for (String n : new String[] {"0", "1", "-1", "40", "41", "MIN", "MAX"}) {
            Run.lively("or missing (sort -1: n does not matter): 1").then("sheet 2 -1 " + n + " = 1",
                "cell 2 0 1 ! -11", "sheet 3 -1 " + n + " ! 1", "cell 0 3 4 ! 1", "sheet 2 2 1 = 1", "cell 2 0 1 = 1");
        }
    }

    /** Triples of 0 come as pairs of kind 0, number 0, anger 0. */
    private static void sheetAllZero() {
        for (int sort = 0; sort < 3; sort++) {
            new Run("all 0", "pair 0 0 0 = 0").sheet(1, sort, 5, 9, 99).then("sheet 1 " + sort + " 3 = 1",
                "tells 1 0 0 = NONE", "pairs 1 " + sort + " 0 1 = 1", "told 1 4 = 0", "told 1 2 = 0", "told 1 3 = 0",
                "sheet 1 " + sort + " 40 = 1", "tells 1 0 0 = NONE");
            new Run("all 0, though it was shorter between", "pair 0 0 0 = 0").sheet(1, sort, 1, 2, 3)
                .then("sheet 1 " + sort + " 1 = 1", "sheet 1 -1 0 = 1", "sheet 1 " + sort + " 3 = 1",
                "tells 1 0 0 = NONE");
        }
    }

    private static void sheetsApart() {
        new Run("SHEETS 0 .. 3", "pair 0 0 0 = 0").sheet(0, 0, 1).sheet(1, 1, 2, 2).sheet(2, 2, 3, 3, 3)
            .sheet(3, 0, 4, 4, 4, 4).then("sheet 1 -1 0 = 1", "cell 0 1 0 = -12", "cell 1 0 0 = -11",
            "cell 2 3 0 = -12", "cell 3 4 0 = -12", "set 3 0 1 = 0", "tells 0 0 0 = NONE", "set 3 0 3 = 1",
            "tells 2 0 0 = 1", "set 3 0 4 = 3", "tells 3 0 0 = 1");
    }

    private static void cellRefused() {
        Run run = Run.lively("cell(): BAD: no such SHEET; -11; -12");
        for (String sheet : NO_SHEETS) {
            run.then("cell " + sheet + " 0 1 ! BAD", "cell " + sheet + " -1 1 ! BAD");
        }
        for (String i : new String[] {"0", "-1", "40", "MIN", "MAX"}) {
            run.then("cell 3 " + i + " 1 ! -11");
        }
    }

    private static void cellPlaces() {
        Run run = Run.lively("-12: a place outside");
        for (String i : new String[] {"-1", "4", "40", "MIN", "MAX"}) {
            run.then("cell 0 " + i + " 1 ! -12");
        }
        run.then("cell 1 3 1 ! -12", "cell 1 -1 1 ! -12", "cell 2 6 1 ! -12", "cell 2 -1 1 ! -12", "cell 0 0 5 = 1",
            "cell 0 3 5 = 1", "cell 2 5 0 = 1");
    }

    private static void cellBits() {
        // 99 is ANGER's last number; what is left of others as a number is told by the pair that comes.
        String[][] taken = {{"99", "355", "-157", "65635", "-65437"}, {"99", "65635", "-65437"}, {"99"}};
        String[][] left = {{"100", "-1", "128", "255", "MAX"}, {"100", "355", "-157", "32768", "MAX"}, {"355", "65635",
            "-65437", "MIN", "MAX"}};
        for (int sort = 0; sort < 3; sort++) {
            for (String v : taken[sort]) {
                new Run("its lowest 8, 16 bits, or all").sheet(0, sort, 0, 0, 0).then("cell 0 2 " + v + " = 1",
                    "pairs 0 " + sort + " 0 1 = 1", "told 0 3 = 99");
            }
            for (String v : left[sort]) {
                new Run("its lowest 8, 16 bits, or all").sheet(0, sort, 0, 0, 0).then("cell 0 2 " + v + " = 1",
                    "pairs 0 " + sort + " 0 1 = 0", "count 0 = 0");
            }
            new Run("MIN's lowest bits").sheet(0, sort, 0, 0, 0).then("cell 0 2 MIN = 1",
                "pairs 0 " + sort + " 0 1 = " + (sort < 2 ? 1 : 0));
        }
        new Run("one item alone", "pair 0 0 5 = 0").sheet(0, 2, 5, 3, 1).then("cell 0 1 3 = 1", "tells 0 0 0 = NONE",
            "cell 0 1 4 = 1", "tells 0 0 0 = 1", "cell 0 1 3 = 1", "cell 0 2 2 = 1", "tells 0 0 0 = 2");
    }

    private static void copyRefused() {
        Run run = Run.lively("copy(): BAD: no such SHEET");
        for (String sheet : NO_SHEETS) {
            run.then("copy " + sheet + " 0 0 0 1 ! BAD", "copy 0 0 " + sheet + " 0 1 ! BAD",
                "copy 3 0 " + sheet + " 0 -1 ! BAD", "copy " + sheet + " 0 3 0 -1 ! BAD");
        }
    }

    /** Sheet 0 has 4 bytes, 1 has 3 shorts, 2 has 6 ints, 3 is missing. */
    private static void copyOrder() {
        Run.lively("copy(): -11 ahead of -13 and -12").then("copy 3 0 0 0 1 ! -11", "copy 0 0 3 0 1 ! -11",
            "copy 3 0 3 0 0 ! -11", "copy 0 9 3 0 1 ! -11", "copy 3 0 0 0 -1 ! -11", "copy 3 MIN 1 MAX MIN ! -11");
        Run.lively("copy(): -13 ahead of -12").then("copy 0 0 1 0 1 ! -13", "copy 1 0 0 0 1 ! -13",
            "copy 0 0 2 0 1 ! -13", "copy 2 0 1 0 0 ! -13", "copy 0 9 1 0 1 ! -13", "copy 1 0 2 9 1 ! -13",
            "copy 0 0 2 0 -1 ! -13", "copy 2 MIN 0 MAX MIN ! -13");
    }

    private static void copyPlaces() {
        Run run = Run.lively("copy(): -12: a place outside").sheet(3, 0, 9, 8, 7);
        String[] outside = {"0 0 3 0 4", "0 2 3 0 3", "0 4 3 0 1", "0 -1 3 0 1", "0 0 3 -1 1", "0 0 3 1 3", "0 0 3 3 1",
            "0 5 3 0 0", "0 0 3 4 0", "0 -1 3 0 0", "0 0 3 -1 0", "0 MAX 3 0 1", "0 0 3 MAX 1", "0 MIN 3 0 1",
            "0 0 3 MIN 1", "0 1 3 1 MAX", "0 MAX 3 0 MAX", "0 0 3 MAX MAX", "0 0 3 0 MAX", "0 MAX 3 MAX 2", "0 0 0 1 4",
            "0 1 0 0 4", "0 0 0 0 5"};
        for (String o : outside) {
            run.then("copy " + o + " ! -12");
        }
        run.then("copy 0 0 3 0 3 = 3", "copy 0 1 3 0 3 = 3", "copy 0 3 3 2 1 = 1", "copy 3 0 0 1 3 = 3",
            "copy 0 0 0 0 4 ! 4");
    }

    private static void copyBelowNothing() {
        Run run = Run.lively("copy(): -12 (also with n below 0)");
        for (String n : new String[] {"-1", "-4", "-5", "MIN"}) {
            run.then("copy 0 0 0 0 " + n + " ! -12", "copy 0 4 0 4 " + n + " ! -12", "copy 0 MIN 0 0 " + n + " ! -12",
                "copy 0 MAX 0 MAX " + n + " ! -12");
        }
    }

    private static void copyOfNone() {
        Run.lively("n numbers, none: 0").then("copy 0 0 0 0 0 ! 0", "copy 0 4 0 4 0 ! 0", "copy 0 5 0 0 0 ! -12",
            "copy 0 0 0 5 0 ! -12", "sheet 3 0 0 = 1", "copy 3 0 0 4 0 ! 0", "copy 0 4 3 0 0 ! 0",
            "copy 3 0 0 0 1 ! -12", "copy 0 0 3 0 1 ! -12");
    }

    /** FAR by anger: 5, 3, 1, 0, .. */
    private static void copyAsTheyWere() {
        new Run("(as they were): onward in one SHEET", "pair 0 0 5 = 0").sheet(0, 2, 5, 3, 1, 7).sheet(1, 2, 0, 0, 0)
            .then("copy 0 0 0 1 3 = 3", "copy 0 1 1 0 3 = 3", "tells 1 0 0 = NONE", "copy 0 0 1 0 2 = 2",
            "tells 1 0 0 = 1", "set 3 0 5 = 5");
        new Run("(as they were): backward in one SHEET", "pair 0 0 5 = 0").sheet(0, 2, 7, 5, 3, 1).sheet(1, 2, 0, 0, 0)
            .then("copy 0 1 0 0 3 = 3", "copy 0 0 1 0 3 = 3", "tells 1 0 0 = NONE", "copy 0 3 1 2 1 = 1",
            "tells 1 0 0 = NONE");
        new Run("come to another one's item j on", "pair 0 0 5 = 0").sheet(0, 1, 5, 3, 1, 0).sheet(1, 1, 9, 9, 9, 9)
            .then("copy 0 0 1 0 1 = 1", "tells 1 0 0 = 1", "copy 0 1 1 1 2 = 2", "tells 1 0 0 = 3",
            "copy 0 3 1 3 1 = 1", "tells 1 0 0 = NONE", "copy 1 0 0 0 4 ! 4", "tells 0 0 0 = NONE");
    }

    private static void copyAll() {
        for (int sort = 0; sort < 3; sort++) {
            new Run("all 40 numbers", "pair 0 0 40 = 0", "sheet 0 " + sort + " 40 = 1", "cell 0 0 40 = 1",
                "cell 0 39 1 = 1", "sheet 1 " + sort + " 40 = 1", "copy 0 0 1 0 40 = 40", "tells 1 0 0 = 1",
                "copy 0 0 1 0 41 ! -12", "copy 0 1 1 0 40 ! -12", "copy 0 0 1 1 40 ! -12", "copy 0 1 1 0 39 = 39",
                "tells 1 0 0 = 0");
        }
        new Run("a byte that is below 0 stays so").sheet(0, 0, 0, 0, 255).sheet(1, 0, 0, 0, 0)
            .then("copy 0 0 1 0 3 = 3", "pairs 1 0 0 1 = 0");
    }

    private static void pairsRefused() {
        Run run = Run.lively("pairs(): BAD: no such SHEET, sort, n");
        for (String sheet : NO_SHEETS) {
            run.then("pairs " + sheet + " 0 0 1 ! BAD");
        }
        for (String sort : new String[] {"-1", "3", "MIN", "MAX"}) {
            run.then("pairs 0 " + sort + " 0 1 ! BAD", "pairs 3 " + sort + " 0 1 ! BAD");
        }
        for (String n : new String[] {"-1", "6", "MIN", "MAX"}) {
            run.then("pairs 0 0 0 " + n + " ! BAD", "pairs 0 1 0 " + n + " ! BAD", "pairs 3 0 0 " + n + " ! BAD");
        }
        run.then("count 0 = 3");
    }

    private static void pairsOrder() {
        Run.lively("pairs(): -13 ahead of -12").then("pairs 0 1 0 1 ! -13", "pairs 0 2 0 1 ! -13",
            "pairs 1 0 0 1 ! -13", "pairs 2 1 0 5 ! -13", "pairs 0 1 -1 1 ! -13", "pairs 0 1 MAX 1 ! -13",
            "pairs 0 1 0 0 ! -13");
        for (int sort = 0; sort < 3; sort++) {
            Run.lively("pairs(): -11 ahead of -12").then("pairs 3 " + sort + " 0 1 ! -11",
                "pairs 3 " + sort + " -1 1 ! -11", "pairs 3 " + sort + " MIN 5 ! -11",
                "pairs 3 " + sort + " 0 0 ! -11");
        }
    }

    private static void pairsOfNone() {
        Run.lively("n of them (0 .. 5): none").then("pairs 0 0 0 0 ! 0", "pairs 0 0 4 0 ! 0", "pairs 0 0 40 0 ! 0",
            "pairs 0 0 -1 0 ! 0", "pairs 0 0 MAX 0 ! 0", "pairs 0 0 MIN 0 ! 0", "sheet 3 0 0 = 1", "pairs 3 0 0 0 ! 0",
            "pairs 3 0 0 1 ! -12");
    }

    private static void pairsPlaces() {
        // 1 2 3 4: from 0 and from 1 a triple lies in it.
        Run run = Run.lively("pairs(): -12");
        for (String from : new String[] {"2", "3", "4", "-1", "-2", "-3", "40", "MIN", "MAX", "2147483645",
            "-2147483646"}) {
            run.then("pairs 0 0 " + from + " 1 ! -12", "pairs 0 0 " + from + " 5 ! -12");
        }
        run.then("pairs 0 0 1 1 = 1", "told 3 4 = 2", "told 3 2 = 3", "told 3 3 = 4", "pairs 0 0 0 1 = 1",
            "told 4 4 = 1", "told 4 2 = 2", "told 4 3 = 3");
        new Run("pairs() at the end of 40").then("sheet 0 0 40 = 1", "pairs 0 0 37 1 = 1", "pairs 0 0 38 1 ! -12",
            "pairs 0 0 25 5 = 4", "count 0 = 5");
        new Run("five pairs from 25 on", "sheet 0 2 40 = 1", "pairs 0 2 25 5 = 5", "count 0 = 5");
        new Run("five pairs from 26 on", "sheet 0 2 40 = 1", "pairs 0 2 26 5 = -12", "count 0 = 4");
    }

    private static void pairsWhatStoodAhead() {
        for (int size = 0; size < 15; size++) {
            new Run("-12: what stood ahead came", "sheet 0 1 " + size + " = 1", "pairs 0 1 0 5 = -12",
                "count 0 = " + size / 3);
        }
        new Run("fifteen numbers, five pairs", "sheet 0 1 15 = 1", "pairs 0 1 0 5 = 5", "count 0 = 5");
        new Run("what stood ahead and was none is left out").sheet(0, 1, 6, 0, 0, 3, 9, 99, 0, 0)
            .then("pairs 0 1 0 3 = -12", "count 0 = 1", "told 0 4 = 3", "told 0 2 = 9", "told 0 3 = 99");
    }

    private static void pairsLeftOut() {
        int[][] others = {{6, 0, 0}, {-1, 0, 0}, {0, 10, 0}, {0, -1, 0}, {0, 0, 100}, {0, 0, -1}};
        for (int sort = 0; sort < 3; sort++) {
            for (int[] other : others) {
                new Run("how many came (others are left out)")
                    .sheet(0, sort, 1, 2, 3, other[0], other[1], other[2], 5, 9, 99)
                    .then("pairs 0 " + sort + " 3 1 ! 0", "pairs 0 " + sort + " 0 3 = 2", "count 0 = 2", "told 0 4 = 1",
                    "told 0 2 = 2", "told 0 3 = 3", "told 1 4 = 5", "told 1 2 = 9", "told 1 3 = 99", "told 1 5 = 0");
            }
        }
    }

    private static void pairsFull() {
        for (int there = 0; there <= 5; there++) {
            Run run = new Run("those that have no room are left out");
            for (int pair = 0; pair < there; pair++) {
                run.then("pair 0 0 7 = " + pair);
            }
            run.then("sheet 0 0 15 = 1", "pairs 0 0 0 5 = " + (5 - there), "count 0 = 5", "pairs 0 0 0 5 ! 0",
                "pairs 0 0 1 5 ! -12", "pairs 0 0 0 0 ! 0");
        }
    }

    private static void pairsOfSorts() {
        new Run("taken for one of a sort: bytes").sheet(0, 0, 261, 265, 355).then("pairs 0 0 0 1 = 1", "told 0 4 = 5",
            "told 0 2 = 9", "told 0 3 = 99");
        new Run("taken for one of a sort: shorts").sheet(0, 1, 65541, 65545, 65635).then("pairs 0 1 0 1 = 1",
            "told 0 4 = 5", "told 0 2 = 9", "told 0 3 = 99");
        new Run("taken for one of a sort: ints").sheet(0, 2, 5, 9, 99).then("pairs 0 2 0 1 = 1", "told 0 4 = 5",
            "told 0 2 = 9", "told 0 3 = 99");
        new Run("the SHEET stays").sheet(0, 2, 5, 9, 99).then("pairs 0 2 0 1 = 1", "pairs 0 2 0 1 = 1",
            "told 1 3 = 99");
    }

    private static void takenRefused() {
        Run run = Run.lively("taken(): BAD: k; -11: no such PAIR; -13");
        for (String k : new String[] {"-1", "6", "MIN", "MAX"}) {
            run.then("taken 0 " + k + " ! BAD", "taken 3 " + k + " ! BAD", "taken -1 " + k + " ! BAD");
        }
        for (String pair : new String[] {"-1", "3", "5", "MIN", "MAX"}) {
            run.then("taken " + pair + " 0 ! -11", "taken " + pair + " 5 ! -11");
        }
        new Run("taken() without PAIRS", "taken 0 0 ! -11", "taken 0 5 ! -11", "taken 0 6 ! BAD");
    }

    private static void takenKinds() {
        String[] under = {"100000", "110000", "101000", "110100", "101010", "100001"};
        for (int kind = 0; kind < 6; kind++) {
            Run run = new Run("taken for one of KIND k (0 .. 5), or one under that one: its NUMBER", "pair 0 3 0 = 0",
                "pair " + kind + " 9 0 = 1");
            for (int k = 0; k < 6; k++) {
                run.then("taken 1 " + k + " ! " + (under[kind].charAt(k) == '1' ? 9 : -13));
            }
            run.then("set 2 1 0 = 9", "taken 1 0 = 0", "taken 1 " + kind + " = 0");
        }
    }
}
