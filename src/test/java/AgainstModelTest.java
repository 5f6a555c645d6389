import java.util.Random;

/** Drawn runs of calls, the program's answers held against those of the model. */
public final class AgainstModelTest {
    private static final String[] NAMES = {"word", "anger", "number", "hour", "things", "bench"};
    private static final String[] TOKENS = {"heats", "cools", "far", "or", "and", "not", "word", "anger", "number",
        "hour", "things", "bench", "(", ")", ";", "+", "-", "*", "<", "=", "7", "1234", "12345", "nota", "?", " ", "\n", "\t"};
    private static final int[] EDGES = {Integer.MIN_VALUE, Integer.MIN_VALUE + 1, -1000, -15, -2, -1, 0, 1, 2, 3, 4, 5, 6,
        7, 8, 9, 10, 15, 16, 19, 20, 21, 39, 40, 41, 50, 51, 98, 99, 100, 255, 256, 65536, Integer.MAX_VALUE - 2, Integer.MAX_VALUE};

    private final Random random;
    private final NoViewWithoutQuarrel x = new NoViewWithoutQuarrel();
    private final Model m = new Model();

    private AgainstModelTest(long seed) {
        random = new Random(seed);
    }

    public static void main(String[] args) {
        for (long seed = 0; seed < 250; seed++) {
            new AgainstModelTest(seed).run();
            if (Check.wrongs() > 0) {
                System.out.println("seed " + seed);
                break;
            }
        }
        for (long seed = 0; seed < 20000; seed++) {
            new AgainstModelTest(seed).runTexts();
        }
        for (long seed = 0; seed < 120; seed++) {
            new AgainstModelTest(seed).runSurvey();
        }
        Check.end();
    }

    private void run() {
        for (int i = random.nextInt(6); i > 0; i--) {
            int kind = random.nextInt(6);
            int number = random.nextInt(10);
            int anger = random.nextInt(100);
            Check.due("pair", x.pair(kind, number, anger), m.pair(kind, number, anger));
        }
        for (int i = 0; i < 400; i++) {
            call(random.nextInt(29));
        }
    }

    private void runTexts() {
        String text = random.nextInt(3) == 0 ? soup() : mutated(goodText());
        feed(text);
        Check.due("text() of <" + text + ">", x.text(), m.text());
        feed(goodText());
        Check.due("text()", x.text(), m.text());
    }

    /** Lively rules, and then everything that can be asked of every pair. */
    private void runSurvey() {
        for (int i = 0; i < 3; i++) {
            feed(livelyText());
            Check.due("text()", x.text(), m.text());
        }
        Check.due("force", x.force(1), m.force(1));
        for (int i = 0; i < 4; i++) {
            int kind = random.nextInt(6);
            int number = random.nextInt(10);
            int anger = random.nextInt(100);
            Check.due("pair", x.pair(kind, number, anger), m.pair(kind, number, anger));
            int mile = random.nextInt(40);
            Check.due("set", x.set(1, mile, i + 1), m.set(1, mile, i + 1));
        }
        for (int what = 0; what < 5; what++) {
            Check.due("view", x.view(what), m.view(what));
            Check.due("clear", x.clear(what), m.clear(what));
        }
        for (int mile = 0; mile < 40; mile += 3) {
            Check.due("whom", x.whom(mile, 0), m.whom(mile, 0));
            Check.due("whom", x.whom(mile, 1), m.whom(mile, 1));
        }
        for (int pair = 0; pair < 4; pair++) {
            surveyPair(pair);
        }
    }

    private void surveyPair(int pair) {
        int seed = random.nextInt();
        for (int what = 0; what < 16; what++) {
            Check.due("told", x.told(pair, what), m.told(pair, what));
            Check.due("words", x.words(pair, what), m.words(pair, what));
        }
        for (int k = 0; k <= 40; k += 2) {
            for (int what = 0; what < 2; what++) {
                Check.due("fewest", x.fewest(pair, k, what), m.fewest(pair, k, what));
                Check.due("chance", x.chance(seed, 20, pair, k, what), m.chance(seed, 20, pair, k, what));
                for (int n = k % 5; n <= 20; n += 5) {
                    Check.due("rows", x.rows(pair, k, n, what), m.rows(pair, k, n, what));
                }
            }
            Check.due("stays", x.stays(pair, k), m.stays(pair, k));
            Check.due("drawn", x.drawn(seed, pair, k), m.drawn(seed, pair, k));
        }
        surveySheets(pair);
    }

    /** What was seen behind a word, by a kind, a number, a rule that may be another, held against what is. */
    private void surveySheets(int pair) {
        Check.due("image", x.image(), m.image());
        for (int change = 0; change < 6; change++) {
            int v = random.nextInt(6);
            int n = random.nextInt(9);
            if (change == 1) {
                Check.due("say", x.say(pair, v), m.say(pair, v));
            } else if (change == 2) {
                Check.due("set", x.set(2, pair, v), m.set(2, pair, v));
            } else if (change == 3) {
                Check.due("force", x.force(v), m.force(v));
            } else if (change == 4) {
                Check.due("set", x.set(3, pair, v * 7), m.set(3, pair, v * 7));
            }
            int filmed = change == 5 ? v % 4 : pair;
            Check.due("film", x.film(v % 4, filmed, n), m.film(v % 4, filmed, n));
            Check.due("back", x.back(), m.back());
            for (int what = 0; what < 8; what++) {
                Check.due("tells", x.tells(v % 4, pair, what), m.tells(v % 4, pair, what));
            }
        }
    }

    private String livelyText() {
        String[] heats = {"word*#-#", "(word-2)*#+number", "word*word-#+(anger<#)*#", "(anger<50 and word<3)*#-(not word<3)*#", "word-#+things"};
        String[] cools = {"#", "number+1", "(anger<50)*#+1", "#-hour", "things+bench"};
        String[] far = {"anger", "anger-#", "40-anger", "anger*2-#+number", "(anger<60)*anger+(59<anger)*#", "anger*anger-#*#"};
        String text = "heats " + heats[random.nextInt(5)] + ";cools " + cools[random.nextInt(5)] + ";far " + far[random.nextInt(6)] + ";";
        StringBuilder all = new StringBuilder();
        for (char c : text.toCharArray()) {
            all.append(c == '#' ? Integer.toString(random.nextInt(random.nextBoolean() ? 6 : 30)) : Character.toString(c));
        }
        return all.toString();
    }

    /** Mostly a number below the limit, now and then one at its edge or far off. */
    private int number(int limit) {
        int draw = random.nextInt(12);
        if (draw == 0) {
            return EDGES[random.nextInt(EDGES.length)];
        }
        return draw == 1 ? limit - random.nextInt(2) : random.nextInt(limit);
    }

    private int somePair() {
        return number(Math.max(1, m.count(0)));
    }

    private String expression(int depth) {
        int draw = random.nextInt(depth <= 0 ? 3 : 16);
        String a = depth > 0 && draw > 2 ? expression(depth - 1) : "";
        String b = depth > 0 && draw > 5 ? expression(depth - 2) : "";
        return switch (draw) {
            case 0 -> Integer.toString(random.nextInt(random.nextBoolean() ? 10 : 10000));
            case 1, 2 -> NAMES[random.nextInt(6)];
            case 3 -> "(" + a + ")";
            case 4 -> "not " + a;
            case 5 -> "-" + a;
            case 6, 7 -> a + "+" + b;
            case 8, 9 -> a + " -" + b;
            case 10, 11 -> a + "*" + b;
            case 12 -> "(" + a + "<" + b + ")";
            case 13 -> a + "=\n" + b;
            case 14 -> a + " or " + b;
            default -> a + " and " + b;
        };
    }

    /** One that is likely a text, and likely one by which something happens. */
    private String goodText() {
        String heats = random.nextBoolean() ? expression(3) : "(" + expression(2) + ")*" + (random.nextInt(9) + 1) + "-" + random.nextInt(30);
        String far = random.nextBoolean() ? expression(3) : "anger*" + random.nextInt(3) + "-" + random.nextInt(30) + "+" + expression(1);
        return "heats " + heats + ";cools " + expression(3) + " ; far " + far + ";" + (random.nextInt(5) == 0 ? " \n" : "");
    }

    private String mutated(String text) {
        StringBuilder all = new StringBuilder(text);
        for (int i = random.nextInt(3); i > 0; i--) {
            int at = random.nextInt(all.length() + 1);
            int draw = random.nextInt(4);
            String token = TOKENS[random.nextInt(TOKENS.length)];
            if (draw == 0) {
                all.insert(at, token);
            } else if (draw == 1 && at < all.length()) {
                all.setCharAt(at, (char) random.nextInt(256));
            } else if (draw == 2) {
                all.setLength(at);
            } else {
                all.delete(at, Math.min(all.length(), at + random.nextInt(6)));
            }
        }
        return all.toString();
    }

    private String soup() {
        StringBuilder all = new StringBuilder("heats ");
        for (int i = random.nextInt(20); i > 0; i--) {
            all.append(TOKENS[random.nextInt(TOKENS.length - random.nextInt(8))]).append(' ');
        }
        return all.toString();
    }

    private void feed(String text) {
        for (int i = 0; i < text.length(); i++) {
            Check.due("feed", x.feed(text.charAt(i)), m.feed(text.charAt(i)));
        }
    }

    private void call(int which) {
        int a = number(4);
        int b = number(6);
        int c = number(41);
        int d = number(100);
        int p = somePair();
        String told = " " + a + " " + b + " " + c + " " + d + " " + p;
        switch (which) {
            case 0 -> Check.due("set 0" + told, x.set(0, c, d), m.set(0, c, d));
            case 1 -> Check.due("set 1" + told, x.set(1, c, b), m.set(1, c, b));
            case 2 -> Check.due("set 2" + told, x.set(a, p, b), m.set(a, p, b));
            case 3 -> Check.due("set 3" + told, x.set(3, p, d), m.set(3, p, d));
            case 4 -> Check.due("pair" + told, x.pair(b, a, d), m.pair(b, a, d));
            case 5 -> {
                int what = number(16);
                Check.due("told" + what + told, x.told(p, what), m.told(p, what));
                Check.due("told 1" + told, x.told(c, 1), m.told(c, 1));
            }
            case 6 -> {
                feed(goodText());
                if (random.nextInt(3) == 0) {
                    Check.due("feed" + d, x.feed(d), m.feed(d));
                }
                Check.due("text", x.text(), m.text());
            }
            case 7 -> Check.due("force" + told, x.force(b), m.force(b));
            case 8 -> Check.due("say" + told, x.say(p, b), m.say(p, b));
            case 9 -> {
                int n = random.nextInt(3) == 0 ? d : random.nextInt(4);
                Check.due("quiet" + n, x.quiet(n), m.quiet(n));
            }
            case 10 -> Check.due("view" + told, x.view(b), m.view(b));
            case 11 -> Check.due("clear" + told, x.clear(a), m.clear(a));
            case 12 -> Check.due("fewest" + told, x.fewest(p, c, a), m.fewest(p, c, a));
            case 13 -> Check.due("fewest row" + told, x.fewest(p, c, 1), m.fewest(p, c, 1));
            case 14 -> Check.due("words" + told, x.words(p, b), m.words(p, b));
            case 15 -> Check.due("stays" + told, x.stays(p, c), m.stays(p, c));
            case 16 -> {
                int n = number(21);
                Check.due("rows" + n + told, x.rows(p, c, n, a), m.rows(p, c, n, a));
                Check.due("rows 1" + n + told, x.rows(p, c, n, 1), m.rows(p, c, n, 1));
            }
            case 17 -> Check.due("whom" + told, x.whom(c, a), m.whom(c, a));
            case 18, 19 -> {
                int what = number(8);
                Check.due("tells" + what + told, x.tells(a, p, what), m.tells(a, p, what));
            }
            case 20 -> Check.due("film" + told, x.film(a, p, c), m.film(a, p, c));
            case 21 -> {
                int seed = random.nextInt();
                Check.due("drawn" + seed + told, x.drawn(seed, p, d), m.drawn(seed, p, d));
            }
            case 22 -> {
                int seed = random.nextInt(4) == 0 ? Integer.MAX_VALUE - random.nextInt(9) : random.nextInt();
                int n = number(21);
                Check.due("chance" + seed + told, x.chance(seed, n, p, c, a), m.chance(seed, n, p, c, a));
            }
            case 23 -> {
                if (random.nextInt(3) == 0) {
                    Check.due("image", x.image(), m.image());
                } else if (random.nextInt(3) == 0) {
                    Check.due("back", x.back(), m.back());
                }
            }
            case 24 -> Check.due("count" + told, x.count(b), m.count(b));
            case 25 -> {
                int sort = random.nextInt(5) - 1;
                int n = random.nextBoolean() ? c : random.nextInt(4);
                Check.due("sheet" + sort + " " + n + told, x.sheet(a, sort, n), m.sheet(a, sort, n));
            }
            case 26 -> {
                int v = random.nextBoolean() ? number(10) : random.nextBoolean() ? d : random.nextInt();
                Check.due("cell" + v + told, x.cell(a, c, v), m.cell(a, c, v));
            }
            case 27 -> {
                int other = random.nextBoolean() ? a : number(4);
                int j = number(10);
                Check.due("copy" + other + " " + j + told, x.copy(a, b, other, j, c), m.copy(a, b, other, j, c));
                int sort = number(3);
                Check.due("pairs" + sort + told, x.pairs(a, sort, c, b), m.pairs(a, sort, c, b));
            }
            default -> Check.due("taken" + told, x.taken(p, b), m.taken(p, b));
        }
    }
}
