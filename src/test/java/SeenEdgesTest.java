/** The edges of promises 8 to 11: say, quiet, view, clear; of ANGER, TOLD, SEES, CLEAR, BLIND, ALL THINGS. */
public final class SeenEdgesTest {
    private static final long ALL = (1L << 40) - 1;

    public static void main(String[] args) {
        sayRefused();
        angerAtAWord();
        heatsAsItIsAhead();
        toldAtAWord();
        mostTold();
        quietRefused();
        quietOfNone();
        quietOfAll();
        angerInAMinute();
        coolsAsItIsAhead();
        quietTellsNothing();
        viewRefused();
        viewWithoutPairs();
        viewHowFar();
        viewThings();
        viewFurthestThing();
        viewWho();
        allThings();
        clearRefused();
        clearMiles();
        clearThings();
        blind();
        asksOnly();
        Check.end();
    }

    private static void sayRefused() {
        Run run = Run.lively("say(): BAD");
        for (String pair : new String[] {"-1", "3", "5", "MIN", "MAX"}) {
            run.then("say " + pair + " 0 ! BAD");
        }
        for (String word : new String[] {"-1", "6", "MIN", "MAX"}) {
            run.then("say 0 " + word + " ! BAD", "say 2 " + word + " ! BAD");
        }
        // word * 4 - 7, anger 48; anger 15 of a HONEY.
        run.then("told 0 5 = 1", "say 0 0 = 41", "say 0 5 = 54", "say 2 5 = 5", "told 0 5 = 3", "told 2 5 = 1",
            "count 2 = 5");
        new Run("say() without PAIRS", "say 0 0 ! BAD", "say -1 0 ! BAD");
    }

    private static void angerAtAWord() {
        new Run("AT A WORD ANGER is more by what it HEATS (0 .. 99, else the bound)").rule("word-1", "0", "0")
            .then("pair 0 0 97 = 0", "say 0 2 = 98", "say 0 2 = 99", "say 0 2 = 99", "say 0 1 = 99", "say 0 0 = 98",
            "set 3 0 1 = 98", "say 0 0 = 0", "say 0 0 = 0", "say 0 1 = 0", "say 0 2 = 1");
        new Run("by the most that it HEATS").rule("word*99-99", "0", "0").then("pair 0 0 0 = 0", "say 0 2 = 99",
            "say 0 2 = 99", "say 0 0 = 0", "say 0 0 = 0", "set 3 0 98 = 0", "say 0 0 = 0", "set 3 0 1 = 0",
            "say 0 2 = 99");
    }

    private static void heatsAsItIsAhead() {
        new Run("told as it is ahead: HEATS").rule("(anger<50)*60-(49<anger)*9", "0", "0").then("pair 0 0 49 = 0",
            "say 0 0 = 99", "say 0 0 = 90", "set 3 0 50 = 90", "say 0 0 = 41");
        new Run("told as it is ahead: HONEY", "pair 4 0 20 = 0", "say 0 5 = 30", "set 3 0 19 = 30", "say 0 5 = 9");
    }

    private static void toldAtAWord() {
        new Run("TOLD is 1 more, of that PAIR", "pair 5 0 10 = 0", "pair 0 0 99 = 1", "say 0 0 = 10", "told 0 5 = 1",
            "told 1 5 = 0", "say 1 0 = 99", "say 1 5 = 99", "told 1 5 = 2", "told 0 5 = 1", "count 2 = 3");
    }

    /** It can't be come to in the 512 calls that are promised; the bound stands all the same. */
    private static void mostTold() {
        NoViewWithoutQuarrel x = new NoViewWithoutQuarrel();
        x.pair(0, 0, 0);
        x.pair(0, 0, 0);
        x.say(1, 0);
        for (int i = 1; i <= 10001; i++) {
            x.say(0, 0);
            if (i >= 9998) {
                Check.due("TOLD (0 .. 9999)", x.told(0, 5), Math.min(i, 9999));
                Check.due("TOLD of all", x.count(2), Math.min(i, 9999) + 1);
            }
        }
    }

    private static void quietRefused() {
        Run.lively("quiet(): n MINUTES (0 .. 99), BAD").then("quiet 100 ! BAD", "quiet -1 ! BAD", "quiet MIN ! BAD",
            "quiet MAX ! BAD", "told 0 3 = 48", "quiet 0 ! 0", "told 0 3 = 48");
        new Run("quiet() refused without PAIRS", "quiet 100 ! BAD", "quiet -1 ! BAD");
        new Run("n MINUTES (0 .. 99): each").rule("0", "1", "0").then("pair 0 0 99 = 0", "quiet 98 = 0", "told 0 3 = 1",
            "quiet 1 = 1", "set 3 0 99 = 0", "quiet 99 = 1", "told 0 3 = 0");
    }

    private static void quietOfNone() {
        new Run("how many PAIRS are not angry then: none", "quiet 0 ! 0", "quiet 99 ! 0", "pair 0 0 1 = 0",
            "quiet 0 ! 0");
    }

    private static void quietOfAll() {
        new Run("how many PAIRS are not angry then (ANGER 0)", "pair 0 0 0 = 0", "quiet 0 ! 1", "pair 0 0 2 = 1",
            "pair 0 0 3 = 2", "pair 5 0 4 = 3", "pair 0 0 5 = 4", "quiet 0 = 1", "quiet 1 = 2", "told 2 3 = 1",
            "told 3 3 = 2", "told 4 3 = 3", "quiet 1 = 4", "quiet 1 = 5", "quiet 99 ! 5");
    }

    private static void angerInAMinute() {
        new Run("in a MINUTE it is less by what it COOLS (0 .. 99, else the bound)", "pair 0 0 2 = 0", "pair 0 0 1 = 1",
            "pair 0 0 0 = 2", "pair 0 0 99 = 3", "pair 0 0 3 = 4", "quiet 1 = 3", "told 0 3 = 0", "told 1 3 = 0",
            "told 2 3 = 0", "told 3 3 = 97", "told 4 3 = 1");
        new Run("by the most that it COOLS").rule("0", "99", "0").then("pair 0 0 99 = 0", "quiet 1 = 1",
            "told 0 3 = 0");
        new Run("by the most less 1").rule("0", "98", "0").then("pair 0 0 99 = 0", "quiet 1 = 0", "told 0 3 = 1");
        new Run("a text that cools below 0 heats nobody").rule("0", "0-5", "0").then("pair 0 0 50 = 0",
            "pair 1 0 50 = 1", "quiet 9 ! 0");
    }

    private static void coolsAsItIsAhead() {
        new Run("told as it is ahead: COOLS").rule("0", "(50<anger)*20+1", "0").then("pair 0 0 51 = 0",
            "pair 0 0 50 = 1", "quiet 1 = 0", "told 0 3 = 30", "told 1 3 = 49", "quiet 1 = 0", "told 0 3 = 29");
        new Run("told as it is ahead: BITTER").rule("0", "3", "0").then("pair 3 0 51 = 0", "pair 3 0 50 = 1",
            "quiet 2 = 0", "told 0 3 = 51", "told 1 3 = 46");
    }

    private static void quietTellsNothing() {
        new Run("A MINUTE tells no WORD", "pair 0 0 9 = 0", "say 0 0 = 14", "quiet 3 = 0", "told 0 5 = 1",
            "count 2 = 1", "told 0 0 = 0");
    }

    private static void viewRefused() {
        Run run = Run.lively("view(): BAD");
        for (String what : new String[] {"-1", "5", "MIN", "MAX"}) {
            run.then("view " + what + " ! BAD");
            new Run("view(): BAD without PAIRS", "view " + what + " ! BAD");
        }
    }

    private static void viewWithoutPairs() {
        new Run("view() without PAIRS and THINGS", "view 0 ! 0", "view 1 ! 0", "view 2 ! 0", "view 3 ! NONE",
            "view 4 ! 0");
        new Run("view() without PAIRS", "set 1 0 7 = 0", "view 0 ! 0", "view 1 ! 0", "view 2 ! 0", "view 3 ! NONE",
            "view 4 ! NONE");
    }

    private static void viewHowFar() {
        new Run("how far by any PAIR", "pair 0 0 0 = 0", "view 0 = 0", "set 3 0 1 = 0", "view 0 = 1", "pair 0 0 39 = 1",
            "view 0 = 39", "set 3 0 40 = 1", "view 0 = 40", "set 3 1 99 = 39", "view 0 = 40", "pair 2 9 20 = 2",
            "view 0 = 40", "set 3 0 3 = 40", "set 3 1 5 = 99", "view 0 = 11");
    }

    private static void viewThings() {
        Run all = new Run("how many THINGS: all", "pair 0 0 40 = 0");
        for (int mile = 0; mile < 40; mile++) {
            all.then("set 1 " + mile + " 1 = 0", "view 1 = " + (mile + 1));
        }
        all.then("set 3 0 39 = 40", "view 1 = 39", "set 3 0 1 = 39", "view 1 = 1", "set 3 0 0 = 1", "view 1 = 0");
        new Run("how many THINGS: those at MILES below FAR", "pair 0 0 10 = 0", "set 1 10 3 = 0", "view 1 = 0",
            "set 1 9 7 = 0", "view 1 = 1", "set 1 0 7 = 0", "view 1 = 2", "set 3 0 11 = 10", "view 1 = 3",
            "set 3 0 9 = 11", "view 1 = 1");
        new Run("how many THINGS: seen by two, counted once", "pair 0 0 10 = 0", "pair 0 0 10 = 1", "set 1 3 3 = 0",
            "view 1 = 1");
    }

    private static void viewFurthestThing() {
        new Run("the furthest THING (0: none)", "pair 0 0 10 = 0", "view 2 = 0", "set 1 10 3 = 0", "view 2 = 0",
            "set 1 0 7 = 0", "view 2 = 7", "set 1 9 1 = 0", "view 2 = 1", "set 3 0 11 = 10", "view 2 = 3",
            "set 3 0 9 = 11", "view 2 = 7", "set 3 0 0 = 9", "view 2 = 0", "set 1 39 6 = 0", "set 3 0 39 = 0",
            "view 2 = 3", "set 3 0 40 = 39", "view 2 = 6");
    }

    private static void viewWho() {
        new Run("who SEES furthest; of like ones the first; NONE: no PAIRS", "view 3 = NONE", "pair 0 0 0 = 0",
            "view 3 = 0", "pair 0 0 0 = 1", "view 3 = 0", "set 3 1 1 = 0", "view 3 = 1", "pair 1 0 1 = 2", "view 3 = 1",
            "pair 5 9 0 = 3", "view 3 = 3", "pair 0 0 99 = 4", "view 3 = 4", "set 3 1 40 = 1", "view 3 = 1",
            "set 3 0 98 = 0", "view 3 = 0");
    }

    private static void allThings() {
        new Run("ALL THINGS: 0: no THINGS", "view 4 = 0", "pair 5 0 0 = 0", "view 4 = 0", "set 1 0 1 = 0",
            "view 4 = NONE", "set 1 0 0 = 1", "view 4 = 0");
        new Run("ALL THINGS: NONE", "set 1 36 1 = 0", "view 4 = NONE", "pair 5 9 0 = 0", "view 4 = NONE",
            "set 1 36 0 = 1", "set 1 35 1 = 0", "view 4 = 0");
        new Run("till the furthest MILE with a THING is CLEAR", "pair 0 0 20 = 0", "set 1 0 1 = 0", "view 4 = 0",
            "set 1 19 1 = 0", "view 4 = 0", "set 1 20 1 = 0", "view 4 = 1", "set 1 39 1 = 0", "view 4 = 1",
            "set 3 0 19 = 20", "view 4 = 2", "set 3 0 0 = 19", "view 4 = 2", "set 1 39 0 = 1", "view 4 = 2",
            "set 1 20 0 = 1", "view 4 = 1", "set 1 19 0 = 1", "view 4 = 1");
        new Run("of WHOM", "set 1 39 1 = 0", "pair 0 0 0 = 0", "view 4 = 2", "pair 1 5 0 = 1", "view 4 = 1",
            "pair 3 0 35 = 2", "view 4 = 0");
    }

    private static void clearRefused() {
        Run run = Run.lively("clear(): NO");
        for (String what : new String[] {"-1", "3", "MIN", "MAX"}) {
            run.then("clear " + what + " ! NO");
            new Run("clear(): NO without PAIRS", "clear " + what + " ! NO");
        }
    }

    /** Bit m for MILE m, below FAR: none at 0, bit 0 at 1, bits 0 .. 39 at 40. */
    private static void clearMiles() {
        Run run = new Run("CLEAR MILES: bit m for MILE m; SEES: MILES below FAR", "clear 0 = 0", "pair 0 0 0 = 0");
        for (int far = 0; far <= 40; far++) {
            run.then("set 3 0 " + far + " = " + Math.max(0, far - 1), "clear 0 = " + ((1L << far) - 1));
        }
        run.then("set 3 0 99 = 40", "clear 0 = ALL");
        new Run("CLEAR (a MILE): some PAIR SEES it", "pair 0 0 3 = 0", "pair 0 0 9 = 1", "pair 5 1 99 = 2",
            "clear 0 = 511", "set 3 1 0 = 9", "clear 0 = 15");
    }

    private static void clearThings() {
        new Run("CLEAR ones with a THING", "set 1 0 1 = 0", "set 1 39 7 = 0", "clear 2 = 0", "pair 0 0 0 = 0",
            "clear 2 = 0", "set 3 0 1 = 0", "clear 2 = 1", "set 3 0 39 = 1", "clear 2 = 1", "set 3 0 40 = 39",
            "clear 2 = " + (1 + (1L << 39)), "set 1 0 0 = 1", "clear 2 = " + (1L << 39), "set 1 39 0 = 7",
            "clear 2 = 0", "clear 0 = ALL");
    }

    private static void blind() {
        new Run("BLIND: MILES that no PAIR can come to SEE by any WORDS", "clear 1 = ALL", "pair 5 0 99 = 0",
            "clear 1 = ALL", "pair 5 9 0 = 1", "clear 1 = " + (ALL - ((1L << 36) - 1)), "pair 2 3 0 = 2",
            "clear 1 = " + (ALL - ((1L << 37) - 1)), "pair 2 1 0 = 3", "clear 1 = " + (1L << 39), "pair 0 0 0 = 4",
            "clear 1 = 0");
        new Run("what is SEEN now is not BLIND").rule("0-9", "0", "anger").then("pair 0 0 10 = 0",
            "clear 1 = " + (ALL - 1023), "set 3 0 0 = 10", "clear 1 = ALL", "set 3 0 99 = 0", "clear 1 = 0");
        new Run("by any WORDS, however many").rule("word=5", "0", "anger-59").then("pair 0 0 0 = 0", "clear 1 = 0");
        new Run("by way of less").rule("(anger=0)*(word=3)*30-(0<anger)*3", "0", "anger").then("pair 0 0 7 = 0",
            "clear 1 = " + (ALL - ((1L << 30) - 1)));
    }

    private static void asksOnly() {
        Run.lively("what is asked changes nothing").then("view 0 ! 40", "view 1 ! 3", "view 2 ! 7", "view 3 ! 0",
            "view 4 ! 0", "clear 0 ! ALL", "clear 1 ! 0", "clear 2 ! " + (1 + (1L << 9) + (1L << 39)));
    }
}
