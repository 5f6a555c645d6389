/** Promises 5 to 7: feed, text, force. */
public final class TextsTest {
    public static void main(String[] args) {
        feeding();
        numbersOfTexts();
        worths();
        names();
        faults();
        openOnes();
        tapesAnew();
        forcing();
        Check.end();
    }

    private static void feeding() {
        NoViewWithoutQuarrel x = new NoViewWithoutQuarrel();
        Check.due("feed(-1)", x.feed(-1), -2);
        Check.due("feed(256)", x.feed(256), -2);
        Check.due("count(4)", x.count(4), 0);
        for (int i = 1; i <= 160; i++) {
            Check.due("feed()", x.feed(i == 1 ? 0 : 255), i);
        }
        Check.due("feed(0) behind a full tape", x.feed(0), -4);
        Check.due("feed(256) behind a full tape", x.feed(256), -2);
        Check.due("count(4)", x.count(4), 160);
        Check.due("text()", x.text(), -100);
        Check.due("count(4)", x.count(4), 0);
    }

    private static void numbersOfTexts() {
        NoViewWithoutQuarrel x = new NoViewWithoutQuarrel();
        String text = "heats 1;cools 2;far 3;";
        for (int i = 1; i <= 5; i++) {
            Check.due("text()", Check.text(x, text), i);
            Check.due("count(3)", x.count(3), i + 1);
            Check.due("count(4)", x.count(4), 0);
            Check.due("a text with a fault", Check.text(x, "heats 1;cools 2;far 3"), i == 5 ? -4 : -121);
            Check.due("count(4) behind a fault", x.count(4), i == 5 ? 21 : 0);
        }
        Check.due("feed() behind a tape that stayed", x.feed(';'), 22);
        Check.due("text() with no room", x.text(), -4);
        Check.due("count(3)", x.count(3), 6);
        Check.due("count(5)", x.count(5), 0);
    }

    /** FAR of a PAIR whose anger is 30 and number 4, told by an E. */
    private static void worth(String e, int due) {
        NoViewWithoutQuarrel x = Check.ruled("heats 0;cools 0;far " + e + ";");
        x.pair(0, 4, 30);
        Check.due("far " + e, x.told(0, 7), due);
    }

    private static void worths() {
        worth("7", 7);
        worth("0007", 7);
        worth("anger", 30);
        worth("2+3*4", 14);
        worth("(2+3)*4", 20);
        worth("20-5-3", 12);
        worth("20-(5-3)", 18);
        worth("- - 6", 6);
        worth("9--3", 12);
        worth("-3*-4", 12);
        worth("2*-3+10", 4);
        worth("not 0", 1);
        worth("not 5", 0);
        worth("not not 5", 1);
        worth("not 3 < 2", 1);
        worth("not 3 = 3", 0);
        worth("3 < 4", 1);
        worth("4 < 4", 0);
        worth("4 = 2 + 2", 1);
        worth("1 + 2 < 2 * 2", 1);
        worth("-5 < 0", 1);
        worth("5 or 0", 1);
        worth("0 or 0", 0);
        worth("5 and 7", 1);
        worth("5 and 0", 0);
        worth("1 or 0 and 0", 1);
        worth("(1 or 0) and 0", 0);
        worth("not 0 and 0", 0);
        worth("not 1 or 1", 1);
        worth("(3 < 4) * 20 + (4 < 3) * 9", 20);
        // 2560000000, wrapped, is -1734967296; 5120000000 is 825032704.
        worth("8000 * 8000 * 40", 0);
        worth("8000 * 8000 * 80", 40);
        worth("0 < 8000 * 8000 * 40", 0);
        worth("8000 * 8000 * 40 = -(1734 * 1000 * 1000 + 967 * 1000 + 296)", 1);
        worth("(3 < 4) = (number = 4)", 1);
        worth("7\n\n+ 1\n", 8);
    }

    private static void names() {
        NoViewWithoutQuarrel x = Check.ruled("heats word*10+number;cools hour+word;far things*10+bench+word;");
        x.pair(0, 4, 30);
        x.pair(0, 0, 30);
        x.pair(0, 0, 30);
        x.set(0, 0, 23);
        x.set(1, 5, 7);
        x.set(1, 6, 7);
        for (int word = 0; word < 6; word++) {
            Check.due("HEATS by word and number", x.told(0, 10 + word), word * 10 + 4);
        }
        Check.due("FAR knows of no word", x.told(0, 7), 23);
        Check.due("HEATS by word and number", x.told(0, 15), 54);
        Check.due("COOLS by hour", x.told(0, 6), 23);
        Check.due("FAR by things and bench", x.told(0, 7), 23);
        x.set(1, 6, 0);
        Check.due("FAR by things and bench", x.told(0, 7), 13);
    }

    private static void fault(String text, int place) {
        Check.due("text() of <" + text + ">", Check.text(new NoViewWithoutQuarrel(), text), -100 - place);
    }

    private static void faults() {
        fault("", 0);
        fault("   ", 3);
        fault("cools 1;", 0);
        fault(" heats", 6);
        fault("heats ;", 6);
        fault("heats 1", 7);
        fault("heats 1 ; \n", 11);
        fault("heats 1;far 2;", 8);
        fault("heats 1;cools 2;far 3;4", 22);
        fault("heats 1;cools 2;far 3; ;", 23);
        fault("heats 1;cools 2;far 3;\t", 22);
        fault("heats 1\r;", 7);
        fault("Heats 1;", 0);
        fault("heatss 1;", 0);
        fault("heat 1;", 0);
        fault("heats wor;", 6);
        fault("heats words;", 6);
        fault("heats numbers;", 6);
        fault("heats heats;", 6);
        fault("heats 12345;", 6);
        fault("heats 1 12345;", 8);
        fault("heats 9999 9;", 11);
        fault("heats 1 + ;", 10);
        fault("heats 1 + + 2;", 10);
        fault("heats 1 * not 2;", 10);
        fault("heats 1 < not 2;", 10);
        fault("heats - not 2;", 8);
        fault("heats 1 < 2 < 3;", 12);
        fault("heats 1 = 2 = 3;", 12);
        fault("heats 1 or;", 10);
        fault("heats 1 and or 2;", 12);
        fault("heats (1;", 8);
        fault("heats ();", 7);
        fault("heats 1);", 7);
        fault("heats (1 2);", 9);
        fault("heats word word;", 11);
        fault("heats wordword;", 6);
        fault("heats 1 orz;", 8);
        fault("heats - foo 5;cools 1;far 1;", 8);
        fault("heats ( foo 5;cools 1;far 1;", 8);
        fault("heats not foo 5;cools 1;far 1;", 10);
        fault("foo heats 5;cools 1;far 1;", 0);
        fault("heats 5;cools 1;far 1;far", 22);
        fault("heats 1 & 2;", 8);
        fault("heats " + (char) 200 + ";", 6);
        fault("heats 5a;", 7);
        Check.due("blanks needn't stand between", Check.text(new NoViewWithoutQuarrel(), "heats5;cools(word)or 1;far-anger;"), 1);
        Check.due("blanks may stand anywhere between", Check.text(new NoViewWithoutQuarrel(), "\n heats\n5\n;\ncools 1 ;far 2;\n "), 1);
    }

    /** Five of ( , not and - may be open at once. */
    private static void openOnes() {
        String rest = ";cools 1;far 2;";
        good("heats (((((1)))))" + rest);
        fault("heats ((((((1))))))" + rest, 11);
        good("heats -----1" + rest);
        fault("heats ------1" + rest, 11);
        good("heats not not not not not 1" + rest);
        fault("heats not not not not not not 1" + rest, 26);
        good("heats not(-(-1))" + rest);
        fault("heats not(-(-(1)))" + rest, 13);
        fault("heats not(-(--1))" + rest, 13);
        fault("heats not not(((not 1)))" + rest, 16);
        good("heats (((((1)))))+(((((2)))))" + rest);
        good("heats ((((-1-1))))*-----3" + rest);
        fault("heats ((((-(1)))))" + rest, 11);
        good("heats not not not not not 1 and not not not not not 1" + rest);
        good("heats ((((-1*(2)))))" + rest);
        good("heats ((((not 1 or (2)))))" + rest);
        fault("heats ((((not 1 + (2)))))" + rest, 18);
        good("heats (((((1-1-1-1-1-1-1)))))" + rest);
    }

    private static void good(String text) {
        Check.due("text() of <" + text + ">", Check.text(new NoViewWithoutQuarrel(), text), 1);
    }

    /** What an earlier tape held behind this one's end is gone. */
    private static void tapesAnew() {
        NoViewWithoutQuarrel x = new NoViewWithoutQuarrel();
        Check.due("text()", Check.text(x, "aaaaaaaaaaaaaaa"), -100);
        Check.due("text() that ends with a word", Check.text(x, "heats"), -105);
        Check.due("text()", Check.text(x, "9999999999999999999999999"), -100);
        Check.due("text() that ends with a number", Check.text(x, "heats 1234"), -110);
        Check.due("text()", Check.text(x, "heats 1;cools 2;far 3;"), 1);
        Check.due("text() of an empty tape", x.text(), -100);
    }

    private static void forcing() {
        NoViewWithoutQuarrel x = new NoViewWithoutQuarrel();
        x.pair(0, 0, 10);
        Check.due("force(1) without such a text", x.force(1), -2);
        Check.due("force(-1)", x.force(-1), -2);
        Check.due("text()", Check.text(x, "heats 1;cools 2;far 33;"), 1);
        Check.due("told(0, 7) by TEXT 0 yet", x.told(0, 7), 10);
        Check.due("force(1)", x.force(1), 0);
        Check.due("told(0, 7)", x.told(0, 7), 33);
        Check.due("count(5)", x.count(5), 1);
        Check.due("force(2)", x.force(2), -2);
        Check.due("count(5)", x.count(5), 1);
        Check.due("force(1)", x.force(1), 1);
        Check.due("force(0)", x.force(0), 1);
        Check.due("told(0, 7)", x.told(0, 7), 10);
    }
}
