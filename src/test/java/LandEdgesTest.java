/** The edges of promises 1 to 4: a new object, set, pair, told. */
public final class LandEdgesTest {
    private static final String[] FAR_OFF = {"-1", "MIN", "MAX"};

    public static void main(String[] args) {
        atFirst();
        objectsApart();
        setHour();
        setThing();
        setNumber();
        setAnger();
        setWhat();
        setPairs();
        pairKind();
        pairNumber();
        pairAnger();
        pairFull();
        pairBadAheadOfFull();
        toldHourAndThing();
        toldOfPairs();
        toldWhat();
        Check.end();
    }

    private static void atFirst() {
        new Run("No PAIRS", "count 0 = 0", "told 0 2 = -1000", "view 3 = NONE", "taken 0 0 = -11", "quiet 0 = 0");
        Run things = new Run("no THINGS", "count 1 = 0", "view 1 = 0", "view 2 = 0");
        for (int mile = 0; mile < 40; mile++) {
            things.then("told " + mile + " 1 = 0");
        }
        new Run("HOUR (0 at first)", "told 0 0 = 0");
        new Run("TEXT 0, at first THE RULE", "count 3 = 1", "count 5 = 0", "pair 0 0 33 = 0", "told 0 10 = 5",
            "told 0 15 = 20", "told 0 6 = 2", "told 0 7 = 33");
        new Run("THE TAPE is empty at first", "count 4 = 0", "feed 32 = 1");
        new Run("there is no IMAGE at first", "back ! STATE");
        new Run("SHEETS, missing (as all are at first)", "cell 0 0 0 ! -11", "cell 1 0 0 ! -11", "cell 2 0 0 ! -11",
            "cell 3 0 0 ! -11");
    }

    /** What one object is told, another one doesn't know. */
    private static void objectsApart() {
        Run.lively("another object").then("count 0 = 3");
        atFirst();
    }

    private static void setHour() {
        Run run = Run.lively("HOUR (0 .. 99) becomes v: what it was").then("set 0 0 0 = 8", "set 0 0 99 = 0",
            "told 0 0 = 99", "set 0 0 100 ! BAD", "set 0 0 -1 ! BAD", "set 0 0 MAX ! BAD", "set 0 0 MIN ! BAD",
            "told 0 0 = 99", "set 0 0 99 = 99");
        for (String of : new String[] {"-1", "5", "40", "MIN", "MAX"}) {
            run.then("set 0 " + of + " 98 = 99", "told 0 0 = 98", "set 0 " + of + " 99 = 98",
                "set 0 " + of + " 100 ! BAD");
        }
    }

    private static void setThing() {
        Run run = Run.lively("the THING (0 .. 7) at a MILE (0 .. 39) becomes v: what it was").then("set 1 0 7 = 1",
            "told 0 1 = 7", "set 1 0 0 = 7", "told 0 1 = 0", "set 1 39 1 = 7", "set 1 39 7 = 1", "told 39 1 = 7");
        for (String of : new String[] {"-1", "40", "MIN", "MAX"}) {
            run.then("set 1 " + of + " 0 ! BAD", "set 1 " + of + " 7 ! BAD");
        }
        for (String v : new String[] {"-1", "8", "MIN", "MAX"}) {
            run.then("set 1 0 " + v + " ! BAD", "set 1 39 " + v + " ! BAD");
        }
        run.then("told 0 1 = 0", "told 39 1 = 7", "count 1 = 2");
    }

    private static void setNumber() {
        Run run = Run.lively("NUMBER (0 .. 9) of a PAIR becomes v: what it was").then("set 2 0 9 = 3", "set 2 0 0 = 9",
            "told 0 2 = 0", "set 2 2 9 = 5", "told 2 2 = 9", "told 1 2 = 4");
        for (String v : new String[] {"-1", "10", "MIN", "MAX"}) {
            run.then("set 2 0 " + v + " ! BAD", "set 2 2 " + v + " ! BAD");
        }
        run.then("told 0 2 = 0", "told 2 2 = 9");
    }

    private static void setAnger() {
        Run run = Run.lively("ANGER (0 .. 99) of a PAIR becomes v: what it was").then("set 3 0 99 = 48",
            "set 3 0 0 = 99", "told 0 3 = 0", "set 3 2 99 = 15", "told 2 3 = 99", "told 1 3 = 35", "told 2 5 = 0");
        for (String v : new String[] {"-1", "100", "MIN", "MAX"}) {
            run.then("set 3 0 " + v + " ! BAD", "set 3 2 " + v + " ! BAD");
        }
        run.then("told 0 3 = 0", "told 2 3 = 99");
    }

    private static void setWhat() {
        Run run = Run.lively("what 0 .. 3, else BAD");
        for (String what : new String[] {"-1", "4", "5", "MIN", "MAX"}) {
            run.then("set " + what + " 0 0 ! BAD", "set " + what + " 0 1 ! BAD");
        }
    }

    /** The last pair that is there and the first that is not, with none on the bench up to a full one. */
    private static void setPairs() {
        for (int size = 0; size <= 5; size++) {
            Run run = new Run("of " + size + " PAIRS, else BAD");
            for (int pair = 0; pair < size; pair++) {
                run.then("pair 0 1 2 = " + pair);
            }
            for (int what = 2; what <= 3; what++) {
                if (size > 0) {
                    run.then("set " + what + " 0 3 = " + (what - 1),
                        "set " + what + " " + (size - 1) + " 3 = " + (size == 1 ? 3 : what - 1));
                }
                run.then("set " + what + " " + size + " 3 ! BAD", "set " + what + " -1 3 ! BAD",
                    "set " + what + " MIN 3 ! BAD", "set " + what + " MAX 3 ! BAD");
            }
        }
    }

    private static void pairKind() {
        Run run = Run.lively("KIND 0 .. 5").then("pair 0 1 2 = 3", "told 3 4 = 0", "pair 5 1 2 = 4", "told 4 4 = 5");
        run = Run.lively("KIND 0 .. 5, else BAD").then("pair 6 1 2 ! BAD");
        for (String kind : FAR_OFF) {
            run.then("pair " + kind + " 1 2 ! BAD");
        }
        run.then("count 0 = 3");
    }

    private static void pairNumber() {
        Run run = Run.lively("NUMBER 0 .. 9").then("pair 0 0 2 = 3", "told 3 2 = 0", "pair 0 9 2 = 4", "told 4 2 = 9");
        run = Run.lively("NUMBER 0 .. 9, else BAD").then("pair 0 10 2 ! BAD");
        for (String number : FAR_OFF) {
            run.then("pair 0 " + number + " 2 ! BAD");
        }
        run.then("count 0 = 3");
    }

    private static void pairAnger() {
        Run run = Run.lively("ANGER 0 .. 99").then("pair 0 1 0 = 3", "told 3 3 = 0", "pair 0 1 99 = 4",
            "told 4 3 = 99");
        run = Run.lively("ANGER 0 .. 99, else BAD").then("pair 0 1 100 ! BAD");
        for (String anger : FAR_OFF) {
            run.then("pair 0 1 " + anger + " ! BAD");
        }
        run.then("count 0 = 3");
    }

    private static void pairFull() {
        Run run = new Run("PAIRS (5 at most, numbered from 0), TOLD (0)");
        for (int pair = 0; pair < 5; pair++) {
            run.then("pair " + pair + " " + pair + " " + (90 + pair) + " = " + pair, "told " + pair + " 5 = 0",
                "count 0 = " + (pair + 1));
        }
        run.then("pair 0 0 0 ! FULL", "pair 5 9 99 ! FULL", "count 0 = 5", "told 5 4 = -1000", "told 4 4 = 4",
            "told 4 3 = 94");
    }

    private static void pairBadAheadOfFull() {
        Run run = new Run("BAD ahead of FULL");
        for (int pair = 0; pair < 5; pair++) {
            run.then("pair 0 0 0 = " + pair);
        }
        run.then("pair 6 0 0 ! BAD", "pair -1 0 0 ! BAD", "pair 0 10 0 ! BAD", "pair 0 -1 0 ! BAD",
            "pair 0 0 100 ! BAD", "pair 0 0 -1 ! BAD");
    }

    private static void toldHourAndThing() {
        Run run = Run.lively("What 0 .. 3 as of set()");
        for (String of : new String[] {"-1", "0", "40", "MIN", "MAX"}) {
            run.then("told " + of + " 0 ! 8");
        }
        run.then("told 0 1 ! 1", "told 39 1 ! 7", "told 38 1 ! 0", "told 40 1 ! -1000");
        for (String of : FAR_OFF) {
            run.then("told " + of + " 1 ! -1000");
        }
        new Run("without PAIRS there are HOUR and THINGS yet", "told 0 0 ! 0", "told 39 1 ! 0");
    }

    private static void toldOfPairs() {
        Run run = Run.lively("of a PAIR; -1000: none such");
        int[][] due = {{3, 48, 1, 1}, {4, 35, 2, 1}, {5, 15, 4, 0}};
        for (int pair = 0; pair < 3; pair++) {
            for (int what = 2; what < 6; what++) {
                run.then("told " + pair + " " + what + " ! " + due[pair][what - 2]);
            }
        }
        for (int what : new int[] {2, 3, 4, 5, 6, 7, 10, 11, 12, 13, 14, 15}) {
            for (String of : new String[] {"-1", "3", "MIN", "MAX"}) {
                run.then("told " + of + " " + what + " ! -1000");
            }
            new Run("-1000 without PAIRS", "told 0 " + what + " ! -1000");
        }
    }

    private static void toldWhat() {
        Run run = Run.lively("What 0 .. 7, 10 .. 15; -1000: none such");
        for (String what : new String[] {"-1", "8", "9", "16", "17", "MIN", "MAX"}) {
            run.then("told 0 " + what + " ! -1000");
        }
        // WED, number 3, anger 48: word * 4 - 7 at word 0 and 5, 1 less than 3, 48 - 5 + 3 - 3 bounded by 40.
        run.then("told 0 10 ! -7", "told 0 15 ! 13", "told 0 13 ! 10", "told 0 6 ! 2", "told 0 7 ! 40");
    }
}
