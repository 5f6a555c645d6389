/** Promises 8 to 11: say, quiet, view, clear. */
public final class SeenTest {
    private static final long ALL = (1L << 40) - 1;

    public static void main(String[] args) {
        saying();
        silence();
        views();
        allThings();
        clearMiles();
        blindMiles();
        Check.end();
    }

    private static void saying() {
        NoViewWithoutQuarrel x = new NoViewWithoutQuarrel();
        Check.due("say(0, 0) without pairs", x.say(0, 0), -2);
        x.pair(0, 0, 70);
        x.pair(4, 0, 13);
        Check.due("say(0, 3)", x.say(0, 3), 84);
        Check.due("say(0, 5)", x.say(0, 5), 99);
        Check.due("say(0, 5)", x.say(0, 5), 99);
        Check.due("say(1, 5)", x.say(1, 5), 3);
        Check.due("say(1, 0)", x.say(1, 0), 0);
        Check.due("say(0, 6)", x.say(0, 6), -2);
        Check.due("say(0, -1)", x.say(0, -1), -2);
        Check.due("say(2, 0)", x.say(2, 0), -2);
        Check.due("say(-1, 0)", x.say(-1, 0), -2);
        Check.due("told(0, 5)", x.told(0, 5), 3);
        Check.due("told(1, 5)", x.told(1, 5), 2);
        Check.due("count(2)", x.count(2), 5);
        NoViewWithoutQuarrel y = Check.ruled("heats 0 - anger;cools 0;far 0;");
        y.pair(1, 2, 40);
        Check.due("say() by what HEATS ahead", y.say(0, 2), 0);
    }

    private static void silence() {
        NoViewWithoutQuarrel x = new NoViewWithoutQuarrel();
        Check.due("quiet(0) without pairs", x.quiet(0), 0);
        int[] angers = {10, 10, 10, 10, 60};
        int[] kinds = {0, 1, 2, 4, 3};
        for (int i = 0; i < 5; i++) {
            x.pair(kinds[i], 0, angers[i]);
        }
        Check.due("quiet(0)", x.quiet(0), 0);
        Check.due("quiet(1)", x.quiet(1), 1);
        int[] due = {8, 9, 5, 0, 60};
        for (int i = 0; i < 5; i++) {
            Check.due("told(i, 3) behind a minute", x.told(i, 3), due[i]);
        }
        Check.due("quiet(1)", x.quiet(1), 2);
        Check.due("quiet(3)", x.quiet(3), 3);
        Check.due("quiet(100)", x.quiet(100), -2);
        Check.due("quiet(-1)", x.quiet(-1), -2);
        Check.due("told(1, 3)", x.told(1, 3), 5);
        Check.due("quiet(99)", x.quiet(99), 4);
        Check.due("told(4, 3)", x.told(4, 3), 60);
        Check.due("count(2)", x.count(2), 0);
        x.set(3, 4, 99);
        x.quiet(1);
        Check.due("told(4, 3)", x.told(4, 3), 99);
        NoViewWithoutQuarrel y = Check.ruled("heats 0;cools anger * 2 - 90;far 0;");
        y.pair(0, 0, 60);
        y.quiet(2);
        Check.due("each minute by its own anger", y.told(0, 3), 30);
    }

    private static void views() {
        NoViewWithoutQuarrel x = new NoViewWithoutQuarrel();
        int[] none = {0, 0, 0, -1, 0, -2};
        for (int what = 0; what < none.length; what++) {
            Check.due("view(" + what + ") without pairs", x.view(what), none[what]);
        }
        x.set(1, 0, 5);
        x.set(1, 19, 6);
        x.set(1, 20, 7);
        x.set(1, 39, 6);
        Check.due("view(4) without pairs", x.view(4), -1);
        x.pair(0, 0, 0);
        Check.due("view(3)", x.view(3), 0);
        Check.due("view(1)", x.view(1), 0);
        Check.due("view(2)", x.view(2), 0);
        x.pair(0, 0, 20);
        x.pair(1, 0, 20);
        Check.due("view(0)", x.view(0), 20);
        Check.due("view(1)", x.view(1), 2);
        Check.due("view(2)", x.view(2), 6);
        Check.due("view(3)", x.view(3), 1);
        x.set(3, 2, 21);
        Check.due("view(0)", x.view(0), 21);
        Check.due("view(1)", x.view(1), 3);
        Check.due("view(2)", x.view(2), 7);
        Check.due("view(3)", x.view(3), 2);
        x.set(3, 2, 99);
        Check.due("view(0)", x.view(0), 40);
        Check.due("view(1)", x.view(1), 4);
        Check.due("view(2)", x.view(2), 6);
        Check.due("view(-1)", x.view(-1), -2);
        Check.due("view(5)", x.view(5), -2);
    }

    private static void allThings() {
        NoViewWithoutQuarrel x = new NoViewWithoutQuarrel();
        x.pair(5, 9, 0);
        x.pair(0, 0, 10);
        Check.due("view(4) without things", x.view(4), 0);
        x.set(1, 35, 1);
        Check.due("view(4) by ALONE", x.view(4), 0);
        x.set(1, 36, 1);
        Check.due("view(4)", x.view(4), 2);
        x.set(2, 0, 8);
        x.set(3, 1, 20);
        x.set(1, 38, 2);
        Check.due("view(4)", x.view(4), 1);
        NoViewWithoutQuarrel z = new NoViewWithoutQuarrel();
        z.set(1, 0, 6);
        z.pair(0, 0, 0);
        Check.due("view(4) of the nearest mile", z.view(4), 1);
        z.say(0, 0);
        Check.due("view(2) of the nearest mile", z.view(2), 6);
        NoViewWithoutQuarrel y = new NoViewWithoutQuarrel();
        y.pair(5, 3, 0);
        y.set(1, 11, 1);
        Check.due("view(4) that stands", y.view(4), 0);
        y.set(1, 12, 1);
        Check.due("view(4) that can't be had", y.view(4), -1);
    }

    private static void clearMiles() {
        NoViewWithoutQuarrel x = new NoViewWithoutQuarrel();
        Check.due("clear(0) without pairs", x.clear(0), 0);
        x.set(1, 3, 1);
        x.set(1, 9, 1);
        x.set(1, 10, 1);
        x.pair(0, 0, 4);
        Check.due("clear(0)", x.clear(0), 15);
        Check.due("clear(2)", x.clear(2), 8);
        x.pair(3, 0, 5);
        Check.due("clear(0)", x.clear(0), 1023);
        Check.due("clear(2)", x.clear(2), 8 + 512);
        x.set(3, 0, 40);
        Check.due("clear(0)", x.clear(0), ALL);
        Check.due("clear(-1)", x.clear(-1), NoViewWithoutQuarrel.NO);
        Check.due("clear(3)", x.clear(3), NoViewWithoutQuarrel.NO);
    }

    private static void blindMiles() {
        NoViewWithoutQuarrel x = new NoViewWithoutQuarrel();
        Check.due("clear(1) without pairs", x.clear(1), ALL);
        x.pair(5, 3, 50);
        Check.due("clear(1) of ALONE", x.clear(1), ALL - 4095);
        x.pair(4, 0, 15);
        Check.due("clear(1) counts what is seen now", x.clear(1), ALL - 32767);
        x.pair(2, 5, 0);
        Check.due("clear(1)", x.clear(1), ALL - ((1L << 35) - 1));
        x.pair(0, 0, 0);
        Check.due("clear(1)", x.clear(1), 0);
    }
}
