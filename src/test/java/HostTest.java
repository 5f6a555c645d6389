/** Promises 24 to 28: sheet, cell, copy, pairs, taken. */
public final class HostTest {
    private static final int MAX = Integer.MAX_VALUE, MIN = Integer.MIN_VALUE;

    public static void main(String[] args) {
        sheets();
        cells();
        copies();
        copiesOfOne();
        pairsBySheets();
        pairsOutside();
        pairsRefused();
        taken();
        Check.end();
    }

    private static void sheets() {
        NoViewWithoutQuarrel x = new NoViewWithoutQuarrel();
        x.pair(0, 0, 0);
        Check.due("sheet(-1, 0, 0)", x.sheet(-1, 0, 0), -2);
        Check.due("sheet(4, 0, 0)", x.sheet(4, 0, 0), -2);
        Check.due("sheet(0, -2, 0)", x.sheet(0, -2, 0), -2);
        Check.due("sheet(0, 3, -1)", x.sheet(0, 3, -1), -2);
        Check.due("sheet(0, 0, 41)", x.sheet(0, 0, 41), -2);
        Check.due("sheet(0, 0, -1)", x.sheet(0, 0, -1), -14);
        Check.due("sheet(0, 2, MIN)", x.sheet(0, 2, MIN), -14);
        Check.due("the sheet is missing yet", x.cell(0, 0, 0), -11);
        for (int sort = 0; sort < 3; sort++) {
            Check.due("sheet(3, sort, 40)", x.sheet(3, sort, 40), 1);
            Check.due("cell(3, 39, 5)", x.cell(3, 39, 5), 1);
            Check.due("cell(3, 0, 5)", x.cell(3, 0, 5), 1);
            Check.due("cell(3, 40, 5)", x.cell(3, 40, 5), -12);
            Check.due("tells(3, 0, 0)", x.tells(3, 0, 0), 0);
            Check.due("sheet(3, sort, 41)", x.sheet(3, sort, 41), -2);
            Check.due("a refused sheet stays", x.cell(3, 39, 5), 1);
            Check.due("sheet() anew", x.sheet(3, sort, 40), 1);
            Check.due("all are 0", x.tells(3, 0, 0), -1);
        }
        Check.due("sheet(3, -1, 99)", x.sheet(3, -1, 99), 1);
        Check.due("it is missing", x.cell(3, 0, 5), -11);
        Check.due("sheet(3, -1, -99)", x.sheet(3, -1, -99), 1);
        Check.due("sheet(3, 0, 0)", x.sheet(3, 0, 0), 1);
        Check.due("it is empty", x.cell(3, 0, 5), -12);
    }

    private static void cells() {
        NoViewWithoutQuarrel x = new NoViewWithoutQuarrel();
        x.pair(0, 0, 10);
        Check.due("cell(-1, 0, 0)", x.cell(-1, 0, 0), -2);
        Check.due("cell(4, 0, 0)", x.cell(4, 0, 0), -2);
        Check.due("cell(0, -1, 0)", x.cell(0, -1, 0), -11);
        int[] alike = {256 + 10, 65536 + 10, 10};
        for (int sort = 0; sort < 3; sort++) {
            x.sheet(0, sort, 1);
            Check.due("cell(0, 1, 0)", x.cell(0, 1, 0), -12);
            Check.due("cell(0, -1, 0)", x.cell(0, -1, 0), -12);
            Check.due("cell(0, MAX, 0)", x.cell(0, MAX, 0), -12);
            for (int v = 0; v < 3; v++) {
                Check.due("cell()", x.cell(0, 0, alike[v]), 1);
                Check.due("its lowest bits", x.tells(0, 0, 0), v >= sort ? -1 : 0);
            }
        }
    }

    private static void copies() {
        NoViewWithoutQuarrel x = new NoViewWithoutQuarrel();
        x.pair(0, 0, 10);
        Check.fill(x, 0, 1, 9, 10, 8, 6, 7);
        x.sheet(1, 1, 3);
        Check.due("copy(0, 1, 1, 0, 3)", x.copy(0, 1, 1, 0, 3), 3);
        Check.due("10 8 6", x.tells(1, 0, 0), -1);
        Check.due("copy(0, 4, 1, 2, 1)", x.copy(0, 4, 1, 2, 1), 1);
        Check.due("10 8 7", x.tells(1, 0, 0), 2);
        Check.due("copy(0, 5, 1, 3, 0)", x.copy(0, 5, 1, 3, 0), 0);
        int[][] outside = {{3, 0, 3}, {0, 1, 3}, {-1, 0, 1}, {0, -1, 1}, {0, 0, -1}, {6, 0, 0}, {0, 4, 0}, {5, 0, 1},
            {0, 3, 1}, {MAX, 0, 1}, {0, MAX, 1}, {1, 1, MAX}, {0, 0, MIN}, {MAX, MAX, MAX}, {MIN, 0, MIN}};
        for (int[] o : outside) {
            Check.due("copy() of places outside", x.copy(0, o[0], 1, o[1], o[2]), -12);
        }
        Check.due("a refused copy changes nothing", x.tells(1, 0, 0), 2);
        Check.due("copy() of a missing one", x.copy(2, 0, 1, 0, -1), -11);
        Check.due("copy() to a missing one", x.copy(1, 0, 2, 0, -1), -11);
        x.sheet(2, 2, 3);
        Check.due("copy() of another sort", x.copy(2, 0, 1, 0, 1), -13);
        Check.due("copy() to another sort", x.copy(1, 9, 2, 0, -1), -13);
        Check.due("copy(4, ..)", x.copy(4, 0, 3, 0, 1), -2);
        Check.due("copy(-1, ..)", x.copy(-1, 0, 3, 0, 1), -2);
        Check.due("copy(.., 4, ..)", x.copy(3, 0, 4, 0, 1), -2);
        Check.due("copy(.., -1, ..)", x.copy(3, 0, -1, 0, 1), -2);
    }

    private static void copiesOfOne() {
        NoViewWithoutQuarrel x = new NoViewWithoutQuarrel();
        x.pair(0, 0, 10);
        Check.fill(x, 0, 2, 10, 8, 6, 0);
        Check.due("copy(0, 0, 0, 1, 3)", x.copy(0, 0, 0, 1, 3), 3);
        Check.fill(x, 1, 2, 0, 0, 0);
        x.copy(0, 1, 1, 0, 3);
        Check.due("as they were", x.tells(1, 0, 0), -1);
        Check.due("copy(0, 1, 0, 0, 3)", x.copy(0, 1, 0, 0, 3), 3);
        x.copy(0, 0, 1, 0, 3);
        Check.due("as they were", x.tells(1, 0, 0), -1);
    }

    private static void pairsBySheets() {
        for (int sort = 0; sort < 3; sort++) {
            NoViewWithoutQuarrel x = new NoViewWithoutQuarrel();
            Check.fill(x, 1, sort, 77, 3, 9, 99, 6, 0, 0, 0, -1, 0, 5, 1, 2, 0, 0, 100);
            Check.due("pairs(1, sort, 1, 5)", x.pairs(1, sort, 1, 5), 2);
            int[][] due = {{3, 9, 99}, {5, 1, 2}};
            for (int pair = 0; pair < 2; pair++) {
                Check.due("KIND", x.told(pair, 4), due[pair][0]);
                Check.due("NUMBER", x.told(pair, 2), due[pair][1]);
                Check.due("ANGER", x.told(pair, 3), due[pair][2]);
            }
            Check.due("pairs(1, sort, 1, 0)", x.pairs(1, sort, 1, 0), 0);
            Check.due("pairs(1, sort, -9, 0)", x.pairs(1, sort, -9, 0), 0);
            x.pair(0, 0, 0);
            x.pair(0, 0, 0);
            x.sheet(1, sort, 40);
            Check.due("pairs() that have no room are left out", x.pairs(1, sort, 0, 5), 1);
            Check.due("count(0)", x.count(0), 5);
            Check.due("pairs() of a full bench", x.pairs(1, sort, 25, 5), 0);
            Check.due("pairs() of a full bench, outside", x.pairs(1, sort, 26, 5), -12);
        }
    }

    private static void pairsOutside() {
        int[] outside = {-1, -3, MIN, MAX, MAX - 2, 7, 8, 9, 40};
        for (int from : outside) {
            NoViewWithoutQuarrel x = new NoViewWithoutQuarrel();
            x.sheet(0, 0, 9);
            Check.due("pairs(0, 0, " + from + ", 1)", x.pairs(0, 0, from, 1), -12);
            Check.due("pairs(0, 0, " + from + ", 5)", x.pairs(0, 0, from, 5), -12);
            Check.due("none came", x.count(0), 0);
        }
        NoViewWithoutQuarrel x = new NoViewWithoutQuarrel();
        x.sheet(0, 0, 11);
        Check.due("pairs(0, 0, 0, 4)", x.pairs(0, 0, 0, 4), -12);
        Check.due("what stood ahead came", x.count(0), 3);
        Check.due("pairs(0, 0, 8, 1)", x.pairs(0, 0, 8, 1), 1);
    }

    private static void pairsRefused() {
        NoViewWithoutQuarrel x = new NoViewWithoutQuarrel();
        x.sheet(0, 1, 40);
        int[][] wrong = {{-1, 1, 0, 1}, {4, 1, 0, 1}, {0, -1, 0, 1}, {0, 3, 0, 1}, {0, 1, 0, -1}, {0, 1, 0, 6}, {1, -1, 0, 1}};
        for (int[] w : wrong) {
            Check.due("pairs()", x.pairs(w[0], w[1], w[2], w[3]), -2);
        }
        Check.due("pairs() of another sort", x.pairs(0, 0, 0, 1), -13);
        Check.due("pairs() of another sort", x.pairs(0, 2, -1, 0), -13);
        for (int sort = 0; sort < 3; sort++) {
            Check.due("pairs() of a missing one", x.pairs(1, sort, -1, 0), -11);
        }
        Check.due("none came", x.count(0), 0);
    }

    private static void taken() {
        int[][] is = {
            {1, 0, 0, 0, 0, 0}, {1, 1, 0, 0, 0, 0}, {1, 0, 1, 0, 0, 0},
            {1, 1, 0, 1, 0, 0}, {1, 0, 1, 0, 1, 0}, {1, 0, 0, 0, 0, 1}};
        for (int kind = 0; kind < 6; kind++) {
            NoViewWithoutQuarrel x = new NoViewWithoutQuarrel();
            Check.due("taken() without pairs", x.taken(0, kind), -11);
            x.pair(0, 0, 0);
            x.pair(kind, 7, 0);
            for (int k = 0; k < 6; k++) {
                Check.due("taken(1, " + k + ") of kind " + kind, x.taken(1, k), is[kind][k] == 1 ? 7 : -13);
            }
            Check.due("taken(2, 0)", x.taken(2, 0), -11);
            Check.due("taken(-1, 0)", x.taken(-1, 0), -11);
            Check.due("taken(9, 6)", x.taken(9, 6), -2);
            Check.due("taken(1, 6)", x.taken(1, 6), -2);
            Check.due("taken(1, -1)", x.taken(1, -1), -2);
        }
    }
}
