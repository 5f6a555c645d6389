/** The edges of promises 5 to 7: feed, text, force; of THE TAPE, of TOKENS, of FAULT, of an E. */
public final class TextsEdgesTest {
    private static final String GOOD = "heats 1;cools 2;far 3;", REST = ";cools 2;far 3;";
    private static final String LEAST = "4096*4096*128", GREATEST = "(4096*4096*128-1)";
    private static final String[] FAR_OFF = {"-1", "MIN", "MAX"};
    private static final int NONE = -1;

    public static void main(String[] args) {
        bytes();
        fullTape();
        badAheadOfFull();
        longestText();
        emptyTape();
        tapeIsEmptyThen();
        nothingOfAFaultyText();
        sixTexts();
        tapeStays();
        faultyTextIsNone();
        operandBytes();
        bytesBehindAnOperand();
        bytesAheadAndBehind();
        longNumbers();
        wordsThatAreNone();
        wordsByLetters();
        wordsThatAreNoneBehindOthers();
        tokensAsLongAsCanBe();
        endsTooEarly();
        keysInTheirOrder();
        faultsInSums();
        faultsOfNot();
        faultsOfComparisons();
        faultsOfBrackets();
        firstFault();
        fiveOpen();
        whatEnds();
        wrapping();
        trueAndFalse();
        order();
        forceTexts();
        Check.end();
    }

    private static void bytes() {
        Run run = Run.lively("A byte (0 .. 255) comes behind THE TAPE: how many it has").then("feed 0 = 9",
            "feed 255 = 10", "count 4 = 10");
        run.then("feed 256 ! BAD");
        for (String letter : FAR_OFF) {
            run.then("feed " + letter + " ! BAD");
        }
        run.then("count 4 = 10", "feed 128 = 11");
    }

    private static void fullTape() {
        Run run = new Run("THE TAPE (160 bytes at most); FULL").tape(padded(GOOD, 159)).then("count 4 = 159",
            "feed 32 = 160", "feed 32 ! FULL", "feed 0 ! FULL", "feed 255 ! FULL", "count 4 = 160");
        run.then("text = 1", "count 4 = 0", "feed 104 = 1");
    }

    private static void badAheadOfFull() {
        new Run("BAD ahead of FULL").tape(padded(GOOD, 160)).then("feed 256 ! BAD", "feed -1 ! BAD", "feed MIN ! BAD",
            "feed MAX ! BAD");
    }

    private static String padded(String text, int size) {
        return text + " ".repeat(size - text.length());
    }

    private static void longestText() {
        String longest = "heats 1" + "+1".repeat(68) + " ;cools 2;far 38;";
        Check.due("bytes of the longest text", longest.length(), 160);
        fault("160 bytes are a TEXT", longest, NONE);
        fault("a FAULT at the last of 160 bytes", padded(GOOD, 159) + "?", 159);
        fault("the text's size, if it ends too early: 160", padded("heats 1;cools 2;far 3", 160), 160);
        fault("a NUMBER up to the end of 160 bytes", "heats " + "1".repeat(154), 6);
        fault("a WORD of 160 letters", "a".repeat(160), 0);
        fault("160 blanks", " ".repeat(160), 160);
        new Run("a TEXT of 160 bytes tells all that it says").rule(longest).then("pair 0 0 0 = 0", "told 0 10 = 69",
            "told 0 6 = 2", "told 0 7 = 38");
    }

    private static void emptyTape() {
        new Run("an empty TAPE ends too early", "text = -100", "count 3 = 1", "count 4 = 0", "text = -100");
    }

    private static void tapeIsEmptyThen() {
        new Run("THE TAPE, which is empty then").tape(GOOD).then("text = 1", "count 4 = 0", "text = -100");
        new Run("THE TAPE, which is empty then (behind a FAULT)").tape("heats ;").then("text = -106", "count 4 = 0",
            "text = -100");
        new Run("nothing of it stands behind").tape("heats ?").then("text = -106").tape(GOOD).then("count 4 = 22",
            "text = 1");
    }

    /** Bytes and steps of a text that was none lie in the next one's way nowhere. */
    private static void nothingOfAFaultyText() {
        String[] letters = {"9", "a", " ", "-", ";", "?"};
        int[] places = {5, 0, 105, 10, 5, 5};
        for (int i = 0; i < letters.length; i++) {
            new Run("of <" + letters[i] + "> nothing is left").tape("heats" + letters[i].repeat(100))
                .then("text = " + (-100 - places[i])).tape("heats").then("text = -105").tape("heats 1")
                .then("text = -107").tape("heats 1234").then("text = -110").tape("heats word").then("text = -110")
                .tape(GOOD).then("text = 1");
        }
        new Run("of its steps nothing is left", "pair 0 0 0 = 0").tape("heats 1;cools --2;far").then("text = -121")
            .rule("1", "2", "9").then("told 0 10 = 1", "told 0 6 = 2", "told 0 7 = 9")
            .tape("heats not 1;cools not not 2;far").then("text = -131").rule("3", "4", "5").then("told 0 10 = 3",
            "told 0 6 = 4", "told 0 7 = 5");
    }

    private static void sixTexts() {
        Run run = new Run("There are 6 TEXTS at most, TEXT 0 with them: its number; FULL").then("pair 0 0 0 = 0");
        for (int text = 1; text <= 5; text++) {
            run.tape("heats " + text + ";cools " + (10 + text) + ";far " + (20 + text) + ";").then("text = " + text,
                "count 3 = " + (text + 1), "count 5 = 0");
        }
        run.tape(GOOD).then("text ! FULL", "count 3 = 6");
        for (int text = 1; text <= 5; text++) {
            run.then("force " + text + " = " + (text - 1), "told 0 10 = " + text, "told 0 6 = " + (10 + text),
                "told 0 7 = " + (20 + text));
        }
        run.then("force 0 = 5", "told 0 10 = 5", "told 0 15 = 20", "told 0 6 = 2", "told 0 7 = 0");
    }

    private static Run fullOfTexts(String sentence) {
        Run run = new Run(sentence);
        for (int text = 1; text <= 5; text++) {
            run.tape(GOOD).then("text = " + text);
        }
        return run;
    }

    private static void tapeStays() {
        fullOfTexts("FULL: no TEXT more has room (THE TAPE stays)").tape(GOOD).then("text ! FULL", "count 4 = 22",
            "feed 32 = 23", "text ! FULL", "count 4 = 23");
        fullOfTexts("FULL, whatever stands on THE TAPE").then("text ! FULL").tape("?").then("text ! FULL",
            "count 4 = 1");
        fullOfTexts("FULL with a full TAPE").tape(padded(GOOD, 160)).then("text ! FULL", "count 4 = 160",
            "feed 32 ! FULL");
    }

    private static void faultyTextIsNone() {
        Run run = new Run("a FAULT makes no TEXT").rule("7", "8", "9").then("pair 0 0 0 = 0")
            .tape("heats 1;cools 2;far 3").then("text = -121", "count 3 = 2", "count 5 = 1", "force 2 ! BAD",
            "told 0 10 = 7", "told 0 6 = 8", "told 0 7 = 9");
        run.tape(GOOD).then("text = 2", "told 0 10 = 7", "told 0 7 = 9", "force 2 = 1", "told 0 10 = 1", "told 0 6 = 2",
            "told 0 7 = 3");
        run.tape("heats 99;cools 99;far 39;;").then("text = -125", "told 0 10 = 1", "told 0 6 = 2", "told 0 7 = 3");
    }

    /** Where the FAULT of a text is; NONE: it is one. */
    private static void fault(String sentence, String text, int place) {
        new Run(sentence + " <" + text + ">").tape(text).then("text = " + (place == NONE ? 1 : -100 - place),
            "count 4 = 0", "count 3 = " + (place == NONE ? 2 : 1));
    }

    private static boolean isBlank(int letter) {
        return letter == 32 || letter == 10;
    }

    private static boolean isDigit(int letter) {
        return letter >= 48 && letter <= 57;
    }

    /** Every byte where a ONE is due: digits are one, blanks, ( and - go ahead of one, others can't stand there. */
    private static void operandBytes() {
        for (int letter = 0; letter < 256; letter++) {
            int place = isDigit(letter) ? NONE : isBlank(letter) || letter == '(' || letter == '-' ? 7 : 6;
            fault("byte " + letter + " where a ONE is due", "heats " + (char) letter + REST, place);
        }
    }

    private static void bytesBehindAnOperand() {
        for (int letter = 0; letter < 256; letter++) {
            boolean joins = "+-*<=;".indexOf(letter) >= 0;
            int place = isDigit(letter) || isBlank(letter) ? NONE : joins ? 8 : 7;
            fault("byte " + letter + " behind a ONE", "heats 1" + (char) letter + REST, place);
        }
    }

    private static void bytesAheadAndBehind() {
        for (int letter = 0; letter < 256; letter++) {
            boolean grows = letter >= 97 && letter <= 122;
            fault("byte " + letter + " ahead of all", (char) letter + GOOD, isBlank(letter) ? NONE : 0);
            fault("byte " + letter + " behind all", GOOD + (char) letter, isBlank(letter) ? NONE : 22);
            fault("byte " + letter + " behind a KEY", "heats" + (char) letter + "1" + REST,
                isBlank(letter) || isDigit(letter) || letter == '-' ? NONE : grows ? 0 : letter == '(' ? 7 : 5);
        }
    }

    private static void longNumbers() {
        String sentence = "NUMBERS (digits, 4 at most); a NUMBER that is too long";
        fault(sentence, "heats 9999" + REST, NONE);
        fault(sentence, "heats 0000" + REST, NONE);
        fault(sentence, "heats 10000" + REST, 6);
        fault(sentence, "heats 00000" + REST, 6);
        fault(sentence, "heats 1+10000" + REST, 8);
        fault(sentence, "heats 1 23456" + REST, 8);
        fault(sentence, "heats 1;cools 2;far 99999;", 20);
        fault(sentence, "12345", 0);
        new Run("a NUMBER of 4 digits").rule("9999=10*999+9", "0007", "9999-9998").then("pair 0 0 0 = 0",
            "told 0 10 = 1", "told 0 6 = 7", "told 0 7 = 1");
    }

    private static void wordsThatAreNone() {
        String[] names = {"word", "anger", "number", "hour", "things", "bench"};
        for (String name : names) {
            fault("NAMES", "heats " + name + REST, NONE);
            fault("a WORD that is neither KEY nor NAME", "heats " + name.substring(0, name.length() - 1) + REST, 6);
            fault("a WORD that is neither KEY nor NAME", "heats " + name.substring(1) + REST, 6);
            fault("a WORD that is neither KEY nor NAME", "heats " + name + "s" + REST, 6);
            fault("a WORD that is neither KEY nor NAME", "heats " + name + name + REST, 6);
            fault("letters are a .. z", "heats " + name.toUpperCase() + REST, 6);
            fault("a NAME where a KEY is due", name + " 1" + REST, 0);
        }
        String[] keys = {"heats", "cools", "far", "or", "and"};
        for (String key : keys) {
            fault("a KEY where a ONE is due", "heats " + key + " 1" + REST, 6);
            fault("a KEY where a ONE is due", "heats (" + key + " 1)" + REST, 7);
        }
        for (String key : new String[] {"o", "orr", "an", "andd", "no", "nott", "h", "heat", "heatss", "cool", "fa",
            "farr"}) {
            fault("a WORD that is neither KEY nor NAME", "heats 1 " + key + " 1" + REST, 8);
            fault("a WORD that is neither KEY nor NAME", key + " 1" + REST, 0);
        }
    }

    /** Each letter of each WORD counts, the first and the last among them. */
    private static void wordsByLetters() {
        String sentence = "a WORD that is neither KEY nor NAME";
        for (String name : new String[] {"word", "anger", "number", "hour", "things", "bench"}) {
            for (int i = 0; i < name.length(); i++) {
                fault(sentence, "heats " + name.substring(0, i) + "z" + name.substring(i + 1) + REST, 6);
            }
        }
        for (String key : new String[] {"or", "and"}) {
            for (int i = 0; i < key.length(); i++) {
                fault(sentence, "heats 1 " + key.substring(0, i) + "z" + key.substring(i + 1) + " 1" + REST, 8);
            }
        }
        for (int i = 0; i < 3; i++) {
            fault(sentence, "heats " + "not".substring(0, i) + "z" + "not".substring(i + 1) + " 1" + REST, 6);
        }
        for (int start : new int[] {0, 8, 16}) {
            for (int i = start; GOOD.charAt(i) != ' '; i++) {
                fault(sentence, GOOD.substring(0, i) + "z" + GOOD.substring(i + 1), start);
            }
        }
    }

    /** What is none isn't taken for the token that stood ahead of it. */
    private static void wordsThatAreNoneBehindOthers() {
        for (String none : new String[] {"foo", "12345", "?"}) {
            fault("behind a (", "heats (" + none + " 5)" + REST, 7);
            fault("behind a -", "heats -" + none + " 5" + REST, 7);
            fault("behind a not", "heats not " + none + " 5" + REST, 10);
            fault("behind a +", "heats 1+" + none + " 5" + REST, 8);
            fault("behind a ;", "heats 1;" + none + "cools 2;far 3;", 8);
            fault("behind an or", "heats 1 or " + none + REST, 11);
            fault("behind a NUMBER", "heats 1 " + none + REST, 8);
            fault("behind a NAME", "heats word " + none + REST, 11);
            fault("behind all", GOOD + none, 22);
        }
    }

    private static void tokensAsLongAsCanBe() {
        String sentence = "TOKENS, each as long as can be; blanks may stand between";
        fault(sentence, "heats1" + REST, NONE);
        fault(sentence, "heats1or 2and 3" + REST, NONE);
        fault(sentence, "heats(word)or(not(anger))" + REST, NONE);
        fault(sentence, "heats 1or2" + REST, NONE);
        fault(sentence, "heats not1" + REST, NONE);
        fault(sentence, "heatsword" + REST, 0);
        fault(sentence, "heats notword" + REST, 6);
        fault(sentence, "heats 1 orword" + REST, 8);
        fault(sentence, "heats wo rd" + REST, 6);
        fault(sentence, "heats 1 2" + REST, 8);
        fault(sentence, "heats 12\n34" + REST, 9);
        fault(sentence, "\n \nheats\n\n1 \n;\ncools\n2\n; far\n3 ;\n ", NONE);
        fault(sentence, "heats-1<-2" + REST, NONE);
    }

    /** A text cut behind each of its tokens, with blanks behind it or none: all of it ends too early. */
    private static void endsTooEarly() {
        String[] tokens = {"heats", "not", "word", "+", "5", "<", "-", "anger", "or", "(", "1", "and", "2", ")", "*",
            "3", ";", "cools", "2", ";", "far", "(", "9", "-", "7", ")", ";"};
        StringBuilder text = new StringBuilder();
        for (int i = 0; i < tokens.length; i++) {
            text.append(i == 0 ? "" : " ").append(tokens[i]);
            boolean whole = i == tokens.length - 1;
            fault("the text's size, if it ends too early", text.toString(), whole ? NONE : text.length());
            fault("the text's size, if it ends too early", text + " \n ", whole ? NONE : text.length() + 3);
        }
    }

    private static void keysInTheirOrder() {
        String sentence = "TEXT: heats E ; cools E ; far E ;";
        fault(sentence, "cools 1;heats 2;far 3;", 0);
        fault(sentence, "far 1;", 0);
        fault(sentence, "1;", 0);
        fault(sentence, ";", 0);
        fault(sentence, "heats 1;heats 2;far 3;", 8);
        fault(sentence, "heats 1;far 2;cools 3;", 8);
        fault(sentence, "heats 1;;cools 2;far 3;", 8);
        fault(sentence, "heats 1 cools 2;far 3;", 8);
        fault(sentence, "heats 1;cools 2;cools 3;", 16);
        fault(sentence, "heats 1;cools 2;heats 3;", 16);
        fault(sentence, "heats 1;cools 2;3;", 16);
        fault(sentence, GOOD + "heats 1;", 22);
        fault(sentence, GOOD + ";", 22);
        fault(sentence, "heats;", 5);
        fault(sentence, "heats 1;cools;", 13);
        fault(sentence, "heats 1;cools 2;far;", 19);
    }

    private static void faultsInSums() {
        String sentence = "SUM: TERM { + or - TERM }, TERM: ONE { * ONE }";
        fault(sentence, "heats +1" + REST, 6);
        fault(sentence, "heats *1" + REST, 6);
        fault(sentence, "heats 1++1" + REST, 8);
        fault(sentence, "heats 1-+1" + REST, 8);
        fault(sentence, "heats 1--1" + REST, NONE);
        fault(sentence, "heats 1+-1" + REST, NONE);
        fault(sentence, "heats 1*-1" + REST, NONE);
        fault(sentence, "heats 1**1" + REST, 8);
        fault(sentence, "heats 1*+1" + REST, 8);
        fault(sentence, "heats 1+" + REST, 8);
        fault(sentence, "heats 1*" + REST, 8);
        fault(sentence, "heats -" + REST, 7);
        fault(sentence, "heats 1 word" + REST, 8);
        fault(sentence, "heats word 1" + REST, 11);
        fault(sentence, "heats 1(2)" + REST, 7);
        fault(sentence, "heats (1)2" + REST, 9);
    }

    private static void faultsOfNot() {
        String sentence = "NOT: not NOT, or SUM, perhaps < or = and a SUM";
        fault(sentence, "heats not" + REST, 9);
        fault(sentence, "heats not not 1" + REST, NONE);
        fault(sentence, "heats 1 not 2" + REST, 8);
        fault(sentence, "heats 1+not 2" + REST, 8);
        fault(sentence, "heats 1-not 2" + REST, 8);
        fault(sentence, "heats 1*not 2" + REST, 8);
        fault(sentence, "heats 1<not 2" + REST, 8);
        fault(sentence, "heats 1=not 2" + REST, 8);
        fault(sentence, "heats -not 2" + REST, 7);
        fault(sentence, "heats 1+(not 2)" + REST, NONE);
        fault(sentence, "heats -(not 2)" + REST, NONE);
        fault(sentence, "heats 1 or not 2 and not 3" + REST, NONE);
        fault(sentence, "heats not or 1" + REST, 10);
    }

    private static void faultsOfComparisons() {
        String sentence = "SUM, perhaps < or = and a SUM";
        fault(sentence, "heats <1" + REST, 6);
        fault(sentence, "heats 1<" + REST, 8);
        fault(sentence, "heats 1<<2" + REST, 8);
        fault(sentence, "heats 1<=2" + REST, 8);
        fault(sentence, "heats 1==2" + REST, 8);
        fault(sentence, "heats 1<2<3" + REST, 9);
        fault(sentence, "heats 1<2=3" + REST, 9);
        fault(sentence, "heats 1=2<3" + REST, 9);
        fault(sentence, "heats 1=2=3" + REST, 9);
        fault(sentence, "heats (1<2)<3" + REST, NONE);
        fault(sentence, "heats 1=(2=3)" + REST, NONE);
        fault(sentence, "heats 1<2 and 2<3 or 3=3" + REST, NONE);
        fault(sentence, "heats 1<2 1" + REST, 10);
    }

    private static void faultsOfBrackets() {
        String sentence = "ONE: ( E )";
        fault(sentence, "heats ()" + REST, 7);
        fault(sentence, "heats (" + REST, 7);
        fault(sentence, "heats )" + REST, 6);
        fault(sentence, "heats 1)" + REST, 7);
        fault(sentence, "heats (1" + REST, 8);
        fault(sentence, "heats (1))" + REST, 9);
        fault(sentence, "heats ((1)" + REST, 10);
        fault(sentence, "heats (1;)" + REST, 8);
        fault(sentence, "heats (1 or 2 and not 3 < 4)" + REST, NONE);
    }

    /** Of several that can't stand, the first; what stands behind it isn't looked at. */
    private static void firstFault() {
        String sentence = "the first TOKEN that can't stand there";
        fault(sentence, "heats 1 ) ? foo 12345", 8);
        fault(sentence, "heats 1 ? ) foo", 8);
        fault(sentence, "heats foo bar", 6);
        fault(sentence, "heats 12345 ?", 6);
        fault(sentence, "heats ;cools ;far ;", 6);
        fault(sentence, "? heats 1;", 0);
        fault(sentence, "  ? heats 1;", 2);
        fault(sentence, "heats 1;cools ;far ;", 14);
    }

    private static void fiveOpen() {
        String sentence = "a ( , a not, a - ahead of a ONE while 5 of these are open";
        fault(sentence, "heats (((((1)))))" + REST, NONE);
        fault(sentence, "heats ((((((1))))))" + REST, 11);
        fault(sentence, "heats -----1" + REST, NONE);
        fault(sentence, "heats ------1" + REST, 11);
        fault(sentence, "heats not not not not not 1" + REST, NONE);
        fault(sentence, "heats not not not not not not 1" + REST, 26);
        fault(sentence, "heats (((((-1)))))" + REST, 11);
        fault(sentence, "heats (((((not 1)))))" + REST, 11);
        fault(sentence, "heats -----(1)" + REST, 11);
        fault(sentence, "heats not not not not not (1)" + REST, 26);
        fault(sentence, "heats not not not not not -1" + REST, 26);
        fault(sentence, "heats not (-(-1))" + REST, NONE);
        fault(sentence, "heats not (-(-(1)))" + REST, 14);
        fault(sentence, "heats not (-(--1))" + REST, 14);
        fault(sentence, "heats not (not (not 1))" + REST, NONE);
        fault(sentence, "heats not (not (not (1)))" + REST, 20);
        fault("in each E", "heats 1;cools (((((1)))));far (((((1)))));", NONE);
        fault("in each E", "heats 1;cools ((((((1))))));far 1;", 19);
        fault("in each E", "heats 1;cools 1;far ((((((1))))));", 25);
        fault("the - of a SUM is none of these", "heats (((((1-1)))))" + REST, NONE);
        fault("the - of a SUM is none of these", "heats (((((1--1)))))" + REST, 13);
        fault("the - of a SUM is none of these", "heats 1-1-1-1-1-1-1-1" + REST, NONE);
    }

    private static void whatEnds() {
        String bracket = "a ( till its )";
        fault(bracket, "heats (((((1)))))*(((((1)))))" + REST, NONE);
        fault(bracket, "heats ((((1)+(1)+(1)+(1)+(1)+(1))))" + REST, NONE);
        fault(bracket, "heats ((((1)+((1)))))" + REST, NONE);
        fault(bracket, "heats ((((1)+(((1))))))" + REST, 15);
        String minus = "- till what it belongs to ends";
        fault(minus, "heats ((((-1*(1)))))" + REST, NONE);
        fault(minus, "heats ((((-1+(1)))))" + REST, NONE);
        fault(minus, "heats ((((-1*-1*-1))))" + REST, NONE);
        fault(minus, "heats ((((-(1)))))" + REST, 11);
        fault(minus, "heats -----1*-----1" + REST, NONE);
        fault(minus, "heats -(-(-1*(1)))" + REST, NONE);
        String not = "not till what it belongs to ends";
        fault(not, "heats ((((not 1 or (1)))))" + REST, NONE);
        fault(not, "heats ((((not 1 and (1)))))" + REST, NONE);
        fault(not, "heats ((((not 1*(1)))))" + REST, 16);
        fault(not, "heats ((((not 1+(1)))))" + REST, 16);
        fault(not, "heats ((((not 1<(1)))))" + REST, 16);
        fault(not, "heats ((((not 1=-1))))" + REST, 16);
        fault(not, "heats not not not not not 1 or not not not not not 1" + REST, NONE);
    }

    /** FAR of a PAIR, anger 30 and number 4, told by an E. */
    private static void worth(String sentence, String e, int due) {
        new Run(sentence + " <" + e + ">").rule("0", "0", e).then("pair 0 4 30 = 0", "told 0 7 = " + due);
    }

    private static void wrapping() {
        String sentence = "An E is an int (32 bits, wrapping)";
        worth(sentence, LEAST + "<0", 1);
        worth(sentence, GREATEST + "<0", 0);
        worth(sentence, LEAST + "<" + GREATEST, 1);
        worth(sentence, GREATEST + "<" + LEAST, 0);
        worth(sentence, GREATEST + "+1=" + LEAST, 1);
        worth(sentence, LEAST + "-1=" + GREATEST, 1);
        worth(sentence, "-(" + LEAST + ")=" + LEAST, 1);
        worth(sentence, "-" + GREATEST + "=" + LEAST + "+1", 1);
        worth(sentence, "4096*4096*256=0", 1);
        worth(sentence, "4096*4096*256+7", 7);
        worth(sentence, LEAST + "+" + LEAST + "+9", 9);
        worth(sentence, GREATEST + "*" + GREATEST, 1);
        worth(sentence, "0-" + LEAST + "<0", 1);
    }

    /** Set in a SUM, so that what is neither 1 nor 0 can't hide behind a bound. */
    private static void truth(String sentence, String e, int due) {
        worth(sentence, e, due);
        worth(sentence, "7+(" + e + ")", 7 + due);
    }

    private static void trueAndFalse() {
        String sentence = "of or, and, not, <, = 1 or 0 (what is not 0 is true)";
        truth(sentence, "9 or 0", 1);
        truth(sentence, "0 or 9", 1);
        truth(sentence, "9 or 9", 1);
        truth(sentence, "0 or 0", 0);
        truth(sentence, "-9 or 0", 1);
        truth(sentence, "9 and 9", 1);
        truth(sentence, "1 and 2", 1);
        truth(sentence, "9 and 0", 0);
        truth(sentence, "0 and 9", 0);
        truth(sentence, "0 and 0", 0);
        truth(sentence, "-1 and -2", 1);
        truth(sentence, "not 0", 1);
        truth(sentence, "not 9", 0);
        truth(sentence, "not -1", 0);
        truth(sentence, "not not 9", 1);
        truth(sentence, "not " + LEAST, 0);
        truth(sentence, "not 4096*4096*256", 1);
        truth(sentence, LEAST + " and " + LEAST, 1);
        truth(sentence, "29<anger", 1);
        truth(sentence, "30<anger", 0);
        truth(sentence, "31<anger", 0);
        truth(sentence, "29=anger", 0);
        truth(sentence, "30=anger", 1);
        truth(sentence, "31=anger", 0);
        truth(sentence, "0<-1", 0);
        truth(sentence, "-1<0", 1);
    }

    private static void order() {
        String sentence = "E: AND { or AND }, AND: NOT { and NOT }, NOT, SUM, TERM, ONE";
        worth(sentence, "1 or 1 and 0", 1);
        worth(sentence, "0 and 1 or 1", 1);
        worth(sentence, "(1 or 1) and 0", 0);
        worth(sentence, "not 1 and 0", 0);
        worth(sentence, "not (1 and 0)", 1);
        worth(sentence, "not 1 or 1", 1);
        worth(sentence, "not 0 = 5", 1);
        worth(sentence, "not 5 + 5", 0);
        worth(sentence, "not 5 - 5", 1);
        worth(sentence, "2 = 1 + 1", 1);
        worth(sentence, "1 + 1 < 1 + 1 * 2", 1);
        worth(sentence, "0 = 0 and 5", 1);
        worth(sentence, "20 - 5 - 5", 10);
        worth(sentence, "20 - 5 + 5", 20);
        worth(sentence, "2 + 3 * 4 + 5", 19);
        worth(sentence, "2 * 3 + 4 * 5", 26);
        worth(sentence, "2 * 3 * 4", 24);
        worth(sentence, "-2 + 9", 7);
        worth(sentence, "-2 * 3 + 9", 3);
        worth(sentence, "9 - -2", 11);
        worth(sentence, "--9", 9);
        worth(sentence, "1 or 0 or 0", 1);
        worth(sentence, "1 and 1 and 0", 0);
        worth(sentence, "number", 4);
        worth(sentence, "5 * (1 or 0)", 5);
    }

    private static void forceTexts() {
        Run run = Run.lively("A TEXT is THE RULE: which was").then("force 0 = 1", "count 5 = 0", "force 0 = 0",
            "force 1 = 0", "force 2 ! BAD");
        for (String text : FAR_OFF) {
            run.then("force " + text + " ! BAD");
        }
        run.then("count 5 = 1", "force 6 ! BAD");
        new Run("of one TEXT", "force 1 ! BAD", "force -1 ! BAD", "force 0 = 0");
        fullOfTexts("of six TEXTS").then("force 5 = 0", "force 6 ! BAD", "force MAX ! BAD", "force MIN ! BAD",
            "count 5 = 5", "force 0 = 5");
        fullOfTexts("force() leaves THE TAPE").tape("heats").then("force 5 = 0", "count 4 = 5", "count 3 = 6");
    }
}
