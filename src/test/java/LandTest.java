/** Promises 1 to 4: a new object, set, pair, told. */
public final class LandTest {
    public static void main(String[] args) {
        newObject();
        setLand();
        setPairs();
        pairs();
        toldNumbers();
        heatsOfKinds();
        coolsOfKinds();
        farOfKinds();
        bounds();
        toldNoneSuch();
        Check.end();
    }

    private static void newObject() {
        NoViewWithoutQuarrel x = new NoViewWithoutQuarrel();
        for (int what = 0; what <= 5; what++) {
            Check.due("count(" + what + ") of a new object", x.count(what), what == 3 ? 1 : 0);
        }
        for (int mile = 0; mile < 40; mile++) {
            Check.due("told(mile, 1)", x.told(mile, 1), 0);
        }
        Check.due("told(0, 0)", x.told(0, 0), 0);
        Check.due("told(0, 4)", x.told(0, 4), -1000);
        Check.due("back()", x.back(), -3);
        for (int sheet = 0; sheet < 4; sheet++) {
            Check.due("cell() of a missing sheet", x.cell(sheet, 0, 0), -11);
        }
    }

    private static void setLand() {
        NoViewWithoutQuarrel x = new NoViewWithoutQuarrel();
        Check.due("set(0, -7, 99)", x.set(0, -7, 99), 0);
        Check.due("set(0, 99, 5)", x.set(0, 99, 5), 99);
        Check.due("told(77, 0)", x.told(77, 0), 5);
        Check.due("set(0, 0, 100)", x.set(0, 0, 100), -2);
        Check.due("set(0, 0, -1)", x.set(0, 0, -1), -2);
        Check.due("told(0, 0)", x.told(0, 0), 5);
        Check.due("set(1, 39, 7)", x.set(1, 39, 7), 0);
        Check.due("set(1, 39, 1)", x.set(1, 39, 1), 7);
        Check.due("set(1, 0, 3)", x.set(1, 0, 3), 0);
        Check.due("count(1)", x.count(1), 2);
        Check.due("set(1, 39, 8)", x.set(1, 39, 8), -2);
        Check.due("set(1, 39, -1)", x.set(1, 39, -1), -2);
        Check.due("set(1, 40, 1)", x.set(1, 40, 1), -2);
        Check.due("set(1, -1, 1)", x.set(1, -1, 1), -2);
        Check.due("told(39, 1)", x.told(39, 1), 1);
        Check.due("set(1, 39, 0)", x.set(1, 39, 0), 1);
        Check.due("count(1)", x.count(1), 1);
        Check.due("set(-1, 0, 0)", x.set(-1, 0, 0), -2);
        Check.due("set(4, 0, 0)", x.set(4, 0, 0), -2);
    }

    private static void setPairs() {
        NoViewWithoutQuarrel x = new NoViewWithoutQuarrel();
        Check.due("set(2, 0, 0) without pairs", x.set(2, 0, 0), -2);
        Check.due("set(3, 0, 0) without pairs", x.set(3, 0, 0), -2);
        x.pair(0, 4, 50);
        Check.due("set(2, 0, 9)", x.set(2, 0, 9), 4);
        Check.due("set(2, 0, 0)", x.set(2, 0, 0), 9);
        Check.due("set(2, 0, 10)", x.set(2, 0, 10), -2);
        Check.due("set(2, 0, -1)", x.set(2, 0, -1), -2);
        Check.due("set(2, 1, 0)", x.set(2, 1, 0), -2);
        Check.due("set(2, -1, 0)", x.set(2, -1, 0), -2);
        Check.due("set(3, 0, 99)", x.set(3, 0, 99), 50);
        Check.due("set(3, 0, 0)", x.set(3, 0, 0), 99);
        Check.due("set(3, 0, 100)", x.set(3, 0, 100), -2);
        Check.due("set(3, 0, -1)", x.set(3, 0, -1), -2);
        Check.due("set(3, 1, 1)", x.set(3, 1, 1), -2);
        Check.due("told(0, 2)", x.told(0, 2), 0);
        Check.due("told(0, 3)", x.told(0, 3), 0);
    }

    private static void pairs() {
        NoViewWithoutQuarrel x = new NoViewWithoutQuarrel();
        int[][] wrong = {{6, 0, 0}, {-1, 0, 0}, {0, 10, 0}, {0, -1, 0}, {0, 0, 100}, {0, 0, -1}};
        for (int[] w : wrong) {
            Check.due("pair() that is none", x.pair(w[0], w[1], w[2]), -2);
        }
        for (int i = 0; i < 5; i++) {
            Check.due("pair()", x.pair(5 - i, 9 - i, 99 - i), i);
        }
        Check.due("a sixth pair", x.pair(0, 0, 0), -4);
        Check.due("a sixth pair that is none", x.pair(0, 0, 100), -2);
        Check.due("count(0)", x.count(0), 5);
        for (int i = 0; i < 5; i++) {
            Check.due("told(i, 4)", x.told(i, 4), 5 - i);
            Check.due("told(i, 2)", x.told(i, 2), 9 - i);
            Check.due("told(i, 3)", x.told(i, 3), 99 - i);
            Check.due("told(i, 5)", x.told(i, 5), 0);
        }
    }

    private static void toldNumbers() {
        NoViewWithoutQuarrel x = new NoViewWithoutQuarrel();
        x.pair(2, 7, 33);
        x.set(0, 0, 12);
        x.set(1, 17, 6);
        x.say(0, 1);
        x.say(0, 1);
        int[] due = {12, -1000, 7, 41, 2, 2, 5, 33, -1000, -1000, 2, 4, 5, 7, 8, 10, -1000};
        for (int what = 0; what < due.length; what++) {
            Check.due("told(0, " + what + ")", x.told(0, what), what == 1 ? 0 : due[what]);
        }
        Check.due("told(17, 1)", x.told(17, 1), 6);
    }

    /** By TEXT 0 a word w heats by 5 + 3 w. */
    private static void heatsOfKinds() {
        int[][] due = {
            {5, 8, 11, 14, 17, 20}, {5, 16, 11, 14, 17, 20}, {2, 4, 5, 7, 8, 10}, {5, 16, 11, 14, 17, 20},
            {2, 4, 5, 7, 8, 10}, {0, 0, 0, 0, 0, 0}};
        for (int kind = 0; kind < 6; kind++) {
            NoViewWithoutQuarrel x = new NoViewWithoutQuarrel();
            x.pair(kind, 7, 20);
            for (int word = 0; word < 6; word++) {
                Check.due("HEATS of kind " + kind + " at " + word, x.told(0, 10 + word), due[kind][word]);
            }
            x.set(3, 0, 19);
            Check.due("HEATS of kind " + kind + " below 20", x.told(0, 15), kind == 4 ? -10 : due[kind][5]);
        }
        int[] below = {-7, -14, -3, 0, -3, 0};
        for (int kind = 0; kind < 6; kind++) {
            NoViewWithoutQuarrel x = Check.ruled("heats -7; cools 0; far 0;");
            x.pair(kind, 6, 20);
            Check.due("HEATS below 0 of kind " + kind, x.told(0, 10), below[kind]);
        }
    }

    private static void coolsOfKinds() {
        int[] due = {2, 1, 5, 1, 10, 2};
        for (int kind = 0; kind < 6; kind++) {
            NoViewWithoutQuarrel x = new NoViewWithoutQuarrel();
            x.pair(kind, 7, 50);
            Check.due("COOLS of kind " + kind, x.told(0, 6), due[kind]);
            x.set(3, 0, 51);
            Check.due("COOLS of kind " + kind + " above 50", x.told(0, 6), kind == 3 ? 0 : due[kind]);
        }
        int[] none = {0, 0, 3, 0, 6, 0};
        for (int kind = 0; kind < 6; kind++) {
            NoViewWithoutQuarrel x = Check.ruled("heats 0; cools -5; far 0;");
            x.pair(kind, 7, 50);
            Check.due("COOLS of kind " + kind + " by a text below 0", x.told(0, 6), none[kind]);
        }
    }

    private static void farOfKinds() {
        int[] due = {30, 30, 23, 35, 23, 28};
        int[] atPeace = {9, 9, 2, 14, 0, 28};
        for (int kind = 0; kind < 6; kind++) {
            NoViewWithoutQuarrel x = new NoViewWithoutQuarrel();
            x.pair(kind, 7, 30);
            Check.due("FAR of kind " + kind, x.told(0, 7), due[kind]);
            NoViewWithoutQuarrel y = Check.ruled("heats 0; cools 0; far 9;");
            y.pair(kind, 7, 0);
            Check.due("FAR of kind " + kind + " with anger 0", y.told(0, 7), atPeace[kind]);
        }
    }

    /** A text's bound is laid ahead of the kind's, as the runs of the shared test ask. */
    private static void bounds() {
        int[] far = {40, 40, 37, 40, 37, 12};
        int[] heats = {99, 99, 49, 99, 49, 0};
        int[] cold = {-99, -99, -49, 0, -49, 0};
        int[] cools = {99, 98, 99, 98, 99, 99};
        for (int kind = 0; kind < 6; kind++) {
            NoViewWithoutQuarrel x = Check.ruled("heats 500; cools 500; far 500;");
            x.pair(kind, 3, 50);
            Check.due("FAR above of kind " + kind, x.told(0, 7), far[kind]);
            Check.due("HEATS above of kind " + kind, x.told(0, 13), heats[kind]);
            Check.due("COOLS above of kind " + kind, x.told(0, 6), cools[kind]);
            NoViewWithoutQuarrel y = Check.ruled("heats -500; cools -500; far -500;");
            y.pair(kind, 3, 50);
            Check.due("FAR below of kind " + kind, y.told(0, 7), kind == 3 ? 5 : kind == 5 ? 12 : 0);
            Check.due("HEATS below of kind " + kind, y.told(0, 13), cold[kind]);
        }
    }

    private static void toldNoneSuch() {
        NoViewWithoutQuarrel x = new NoViewWithoutQuarrel();
        x.pair(0, 0, 0);
        int[] none = {-1, 8, 9, 16, Integer.MAX_VALUE, Integer.MIN_VALUE};
        for (int what : none) {
            Check.due("told(0, " + what + ")", x.told(0, what), -1000);
        }
        for (int what = 2; what < 16; what++) {
            Check.due("told(1, " + what + ")", x.told(1, what), -1000);
            Check.due("told(-1, " + what + ")", x.told(-1, what), -1000);
        }
        Check.due("told(40, 1)", x.told(40, 1), -1000);
        Check.due("told(-1, 1)", x.told(-1, 1), -1000);
    }
}
