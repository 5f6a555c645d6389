/** The edges of 'Terms' that no one call owns: what kinds make of a text's numbers, and where the bounds lie. */
public final class KindsEdgesTest {
    /** The least int, as a text tells it; 1 less is the greatest. */
    private static final String LEAST = "4096*4096*128", GREATEST = "4096*4096*128-1";
    private static final int HEATS = 10, COOLS = 6, FAR = 7;

    public static void main(String[] args) {
        heatsThatATextTells();
        heatsOfWed();
        wordsOfWed();
        heatsOfYoung();
        heatsOfBitter();
        heatsOfHoney();
        heatsOfAlone();
        coolsThatATextTells();
        coolsOfWed();
        coolsOfYoung();
        coolsOfBitter();
        coolsOfHoney();
        coolsOfAlone();
        farThatATextTells();
        farOfWed();
        farOfYoung();
        farOfBitter();
        farOfHoney();
        farOfAlone();
        wordOfCoolsAndFar();
        names();
        Check.end();
    }

    /** What a pair of that kind answers where the text tells that number. */
    private static void tells(String sentence, int[] pair, int what, String number, int due) {
        new Run(sentence + " (" + number + ")").rule(number, number, number)
            .then("pair " + pair[0] + " " + pair[1] + " " + pair[2] + " = 0", "told 0 " + what + " = " + due);
    }

    private static int[] pair(int kind, int number, int anger) {
        return new int[] {kind, number, anger};
    }

    private static void heatsThatATextTells() {
        String sentence = "heats (-99 .. 99, else the bound); PAIR: v";
        int[] pair = pair(0, 0, 50);
        tells(sentence, pair, HEATS, "98", 98);
        tells(sentence, pair, HEATS, "99", 99);
        tells(sentence, pair, HEATS, "100", 99);
        tells(sentence, pair, HEATS, GREATEST, 99);
        tells(sentence, pair, HEATS, "0", 0);
        tells(sentence, pair, HEATS, "-98", -98);
        tells(sentence, pair, HEATS, "-99", -99);
        tells(sentence, pair, HEATS, "-100", -99);
        tells(sentence, pair, HEATS, LEAST, -99);
    }

    private static void heatsOfWed() {
        String sentence = "WED: twice a PAIR's, if w is NUMBER modulo 6, else as a PAIR";
        int[] pair = pair(1, 0, 50);
        tells(sentence, pair, HEATS, "49", 98);
        tells(sentence, pair, HEATS, "50", 99);
        tells(sentence, pair, HEATS, "99", 99);
        tells(sentence, pair, HEATS, "-49", -98);
        tells(sentence, pair, HEATS, "-50", -99);
        tells(sentence, pair, HEATS, GREATEST, 99);
        tells(sentence, pair, HEATS, LEAST, -99);
        tells(sentence, pair, HEATS + 1, "49", 49);
        tells(sentence, pair, HEATS + 1, "-49", -49);
        tells(sentence, pair, HEATS + 5, "100", 99);
    }

    private static void wordsOfWed() {
        int[] twice = {0, 1, 2, 3, 4, 5, 0, 1, 2, 3};
        for (int kind = 1; kind <= 3; kind += 2) {
            for (int number = 0; number < 10; number++) {
                for (int word = 0; word < 6; word++) {
                    tells("if w is NUMBER modulo 6", pair(kind, number, 50), HEATS + word, "7",
                        word == twice[number] ? 14 : 7);
                }
            }
        }
    }

    private static void heatsOfYoung() {
        String sentence = "YOUNG: half (cut) of a PAIR's";
        int[] pair = pair(2, 0, 50);
        tells(sentence, pair, HEATS, "1", 0);
        tells(sentence, pair, HEATS, "-1", 0);
        tells(sentence, pair, HEATS, "2", 1);
        tells(sentence, pair, HEATS, "-2", -1);
        tells(sentence, pair, HEATS, "-3", -1);
        tells(sentence, pair, HEATS, "99", 49);
        tells(sentence, pair, HEATS, "100", 49);
        tells(sentence, pair, HEATS, GREATEST, 49);
        tells(sentence, pair, HEATS, "-99", -49);
        tells(sentence, pair, HEATS, "-100", -49);
        tells(sentence, pair, HEATS, LEAST, -49);
    }

    private static void heatsOfBitter() {
        String sentence = "BITTER: as a WED, 0 at least";
        int[] pair = pair(3, 6, 50);
        tells(sentence, pair, HEATS, "1", 2);
        tells(sentence, pair, HEATS, "0", 0);
        tells(sentence, pair, HEATS, "-1", 0);
        tells(sentence, pair, HEATS, "50", 99);
        tells(sentence, pair, HEATS + 1, "1", 1);
        tells(sentence, pair, HEATS + 1, "-1", 0);
        tells(sentence, pair, HEATS + 1, "100", 99);
        tells(sentence, pair, HEATS + 1, LEAST, 0);
    }

    private static void heatsOfHoney() {
        String sentence = "HONEY: 0 less 10, if a is below 20, else as a YOUNG";
        for (int anger : new int[] {0, 1, 19}) {
            tells(sentence, pair(4, 0, anger), HEATS, "99", -10);
            tells(sentence, pair(4, 0, anger), HEATS + 5, "-99", -10);
        }
        for (int anger : new int[] {20, 21, 99}) {
            tells(sentence, pair(4, 0, anger), HEATS, "7", 3);
            tells(sentence, pair(4, 0, anger), HEATS + 5, "-7", -3);
            tells(sentence, pair(4, 0, anger), HEATS, "100", 49);
        }
    }

    private static void heatsOfAlone() {
        for (String number : new String[] {"99", "-99", "1", LEAST}) {
            tells("ALONE: 0", pair(5, 0, 50), HEATS, number, 0);
            tells("ALONE: 0", pair(5, 9, 0), HEATS + 5, number, 0);
        }
    }

    private static void coolsThatATextTells() {
        String sentence = "cools (0 .. 99, else the bound); PAIR: v";
        int[] pair = pair(0, 0, 50);
        tells(sentence, pair, COOLS, "1", 1);
        tells(sentence, pair, COOLS, "0", 0);
        tells(sentence, pair, COOLS, "-1", 0);
        tells(sentence, pair, COOLS, LEAST, 0);
        tells(sentence, pair, COOLS, "98", 98);
        tells(sentence, pair, COOLS, "99", 99);
        tells(sentence, pair, COOLS, "100", 99);
        tells(sentence, pair, COOLS, GREATEST, 99);
    }

    private static void coolsOfWed() {
        String sentence = "WED: 1 less than a PAIR";
        int[] pair = pair(1, 0, 99);
        tells(sentence, pair, COOLS, "2", 1);
        tells(sentence, pair, COOLS, "1", 0);
        tells(sentence, pair, COOLS, "0", 0);
        tells(sentence, pair, COOLS, "-1", 0);
        tells(sentence, pair, COOLS, "99", 98);
        tells(sentence, pair, COOLS, "100", 98);
    }

    private static void coolsOfYoung() {
        String sentence = "YOUNG: 3 more than a PAIR";
        int[] pair = pair(2, 9, 50);
        tells(sentence, pair, COOLS, "0", 3);
        tells(sentence, pair, COOLS, "-1", 3);
        tells(sentence, pair, COOLS, LEAST, 3);
        tells(sentence, pair, COOLS, "96", 99);
        tells(sentence, pair, COOLS, "97", 99);
        tells(sentence, pair, COOLS, GREATEST, 99);
    }

    private static void coolsOfBitter() {
        String sentence = "BITTER: 0, if a is above 50, else as a WED";
        tells(sentence, pair(3, 0, 51), COOLS, "99", 0);
        tells(sentence, pair(3, 0, 99), COOLS, "99", 0);
        tells(sentence, pair(3, 0, 50), COOLS, "99", 98);
        tells(sentence, pair(3, 0, 50), COOLS, "1", 0);
        tells(sentence, pair(3, 0, 50), COOLS, "0", 0);
        tells(sentence, pair(3, 0, 0), COOLS, "100", 98);
    }

    private static void coolsOfHoney() {
        String sentence = "HONEY: twice a YOUNG's";
        int[] pair = pair(4, 9, 50);
        tells(sentence, pair, COOLS, "0", 6);
        tells(sentence, pair, COOLS, "-1", 6);
        tells(sentence, pair, COOLS, LEAST, 6);
        tells(sentence, pair, COOLS, "46", 98);
        tells(sentence, pair, COOLS, "47", 99);
        tells(sentence, pair, COOLS, GREATEST, 99);
        tells(sentence, pair(4, 0, 0), COOLS, "1", 8);
    }

    private static void coolsOfAlone() {
        String sentence = "ALONE: as a PAIR";
        tells(sentence, pair(5, 9, 99), COOLS, "99", 99);
        tells(sentence, pair(5, 9, 99), COOLS, "100", 99);
        tells(sentence, pair(5, 9, 99), COOLS, "0", 0);
        tells(sentence, pair(5, 9, 99), COOLS, "-1", 0);
    }

    private static void farThatATextTells() {
        String sentence = "far (0 .. 40, else the bound); PAIR: v";
        int[] pair = pair(0, 9, 50);
        tells(sentence, pair, FAR, "1", 1);
        tells(sentence, pair, FAR, "0", 0);
        tells(sentence, pair, FAR, "-1", 0);
        tells(sentence, pair, FAR, LEAST, 0);
        tells(sentence, pair, FAR, "39", 39);
        tells(sentence, pair, FAR, "40", 40);
        tells(sentence, pair, FAR, "41", 40);
        tells(sentence, pair, FAR, GREATEST, 40);
    }

    private static void farOfWed() {
        String sentence = "WED: as a PAIR";
        int[] pair = pair(1, 9, 50);
        tells(sentence, pair, FAR, "0", 0);
        tells(sentence, pair, FAR, "-1", 0);
        tells(sentence, pair, FAR, "40", 40);
        tells(sentence, pair, FAR, "41", 40);
    }

    private static void farOfYoung() {
        String sentence = "YOUNG: NUMBER less than a PAIR";
        int[] pair = pair(2, 9, 50);
        tells(sentence, pair, FAR, "10", 1);
        tells(sentence, pair, FAR, "9", 0);
        tells(sentence, pair, FAR, "8", 0);
        tells(sentence, pair, FAR, LEAST, 0);
        tells(sentence, pair, FAR, "40", 31);
        tells(sentence, pair, FAR, "41", 31);
        tells(sentence, pair, FAR, GREATEST, 31);
        tells(sentence, pair(2, 0, 0), FAR, "40", 40);
    }

    private static void farOfBitter() {
        String sentence = "BITTER: 5 more than a WED";
        int[] pair = pair(3, 9, 50);
        tells(sentence, pair, FAR, "0", 5);
        tells(sentence, pair, FAR, "-1", 5);
        tells(sentence, pair, FAR, LEAST, 5);
        tells(sentence, pair, FAR, "34", 39);
        tells(sentence, pair, FAR, "35", 40);
        tells(sentence, pair, FAR, "36", 40);
        tells(sentence, pair, FAR, GREATEST, 40);
    }

    private static void farOfHoney() {
        String sentence = "HONEY: 0, if a is 0, else as a YOUNG";
        tells(sentence, pair(4, 9, 0), FAR, "40", 0);
        tells(sentence, pair(4, 0, 0), FAR, "1", 0);
        tells(sentence, pair(4, 9, 1), FAR, "40", 31);
        tells(sentence, pair(4, 9, 99), FAR, "41", 31);
        tells(sentence, pair(4, 9, 1), FAR, "8", 0);
        tells(sentence, pair(4, 0, 1), FAR, "1", 1);
    }

    private static void farOfAlone() {
        for (int number = 0; number < 10; number++) {
            tells("ALONE: 4 times NUMBER", pair(5, number, 0), FAR, "0", 4 * number);
            tells("ALONE: 4 times NUMBER", pair(5, number, 99), FAR, "40", 4 * number);
        }
    }

    private static void wordOfCoolsAndFar() {
        new Run("word: the WORD (of cools, far 0)").rule("word", "word+1", "word+2").then("pair 0 9 50 = 0",
            "told 0 10 = 0", "told 0 15 = 5", "told 0 6 = 1", "told 0 15 = 5", "told 0 7 = 2", "say 0 5 = 55",
            "told 0 6 = 1", "told 0 7 = 2", "stays 0 1 = 100", "stays 0 2 = 0", "quiet 1 = 0", "told 0 3 = 54");
    }

    private static void names() {
        new Run("anger: ANGER").rule("0", "0", "anger-59").then("pair 0 0 99 = 0", "told 0 7 = 40", "set 3 0 60 = 99",
            "told 0 7 = 1", "set 3 0 0 = 60", "told 0 7 = 0");
        new Run("number: NUMBER").rule("number", "0", "number").then("pair 0 0 50 = 0", "pair 0 9 50 = 1",
            "told 0 7 = 0", "told 1 7 = 9", "told 0 10 = 0", "told 1 10 = 9");
        new Run("hour: HOUR").rule("hour", "hour", "hour").then("pair 0 0 50 = 0", "told 0 7 = 0", "set 0 0 39 = 0",
            "told 0 7 = 39", "set 0 0 99 = 39", "told 0 10 = 99", "told 0 6 = 99", "told 0 7 = 40");
        Run things = new Run("things: how many MILES have a THING").rule("0", "0", "things").then("pair 0 0 50 = 0",
            "told 0 7 = 0");
        for (int mile = 0; mile < 40; mile++) {
            things.then("set 1 " + mile + " 7 = 0", "told 0 7 = " + (mile + 1));
        }
        things.then("set 1 39 1 = 7", "told 0 7 = 40", "set 1 39 0 = 1", "told 0 7 = 39", "set 1 0 0 = 7",
            "told 0 7 = 38");
        Run bench = new Run("bench: how many PAIRS there are").rule("0", "0", "bench");
        for (int pair = 0; pair < 5; pair++) {
            bench.then("pair 0 0 50 = " + pair, "told 0 7 = " + (pair + 1), "told " + pair + " 7 = " + (pair + 1));
        }
        bench.then("pair 0 0 50 = FULL", "told 4 7 = 5");
    }
}
