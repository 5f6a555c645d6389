/** Counts answers that are not the ones that are due; a test ends with exit code 1 if there was one. */
final class Check {
    private static int wrong = 0;
    private static int asked = 0;

    private Check() {
    }

    static void due(String call, long got, long want) {
        asked++;
        if (got != want) {
            wrong++;
            if (wrong <= 50) {
                System.out.println(call + " answered " + got + ", due is " + want);
            }
        }
    }

    static void holds(String what, boolean is) {
        due(what, is ? 1 : 0, 1);
    }

    static int wrongs() {
        return wrong;
    }

    /** Feeds a text's letters; what the last one answered. */
    static int feed(NoViewWithoutQuarrel x, String text) {
        int size = x.count(4);
        for (int i = 0; i < text.length(); i++) {
            size = x.feed(text.charAt(i));
        }
        return size;
    }

    static int text(NoViewWithoutQuarrel x, String text) {
        feed(x, text);
        return x.text();
    }

    /** A new object whose rule is that text. */
    static NoViewWithoutQuarrel ruled(String text) {
        NoViewWithoutQuarrel x = new NoViewWithoutQuarrel();
        due("text() of " + text, text(x, text), 1);
        due("force(1)", x.force(1), 0);
        return x;
    }

    static void fill(NoViewWithoutQuarrel x, int sheet, int sort, int... numbers) {
        due("sheet()", x.sheet(sheet, sort, numbers.length), 1);
        for (int i = 0; i < numbers.length; i++) {
            due("cell()", x.cell(sheet, i, numbers[i]), 1);
        }
    }

    static void end() {
        System.out.println(asked - wrong + " answers as due, " + wrong + " not");
        System.exit(wrong == 0 ? 0 : 1);
    }
}
