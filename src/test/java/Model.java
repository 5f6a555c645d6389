import java.math.BigInteger;
import java.util.ArrayDeque;
import java.util.ArrayList;
import java.util.Arrays;
import java.util.Deque;
import java.util.List;
import java.util.Map;
import java.util.TreeMap;
import java.util.function.IntBinaryOperator;
import java.util.function.IntPredicate;

/**
 * The document once more, written another way than the program, so that one can be held against the other:
 * kinds as classes, texts as trees that a table of states builds, words tried row by row.
 */
final class Model {
    static final int NONE = -1, BAD = -2, STATE = -3, FULL = -4;
    static final long NO = -4611686018427387904L;

    /** What a name is worth where it is asked. */
    record Names(int word, int anger, int number, int hour, int things, int bench) {
    }

    interface Tree {
        int worth(Names n);
    }

    static class Fault extends RuntimeException {
        private static final long serialVersionUID = 1;
        final int place;

        Fault(int place) {
            super("", null, false, false);
            this.place = place;
        }
    }

    record Token(String text, int place) {
    }

    /** Lexes up to the first token that is none; that one is told as "?". */
    static List<Token> tokens(String tape) {
        List<Token> all = new ArrayList<>();
        java.util.regex.Matcher m = java.util.regex.Pattern.compile("[a-z]+|[0-9]+|[();+*<=-]|[ \n]|(?s).").matcher(tape);
        List<String> known = List.of("word", "anger", "number", "hour", "things", "bench",
            "heats", "cools", "far", "or", "and", "not");
        while (m.find()) {
            String t = m.group();
            if (t.equals(" ") || t.equals("\n")) {
                continue;
            }
            boolean good = t.matches("[a-z]+") ? known.contains(t) : t.matches("[0-9]+") ? t.length() <= 4 : t.matches("[();+*<=-]");
            all.add(new Token(good ? t : "?", m.start()));
        }
        all.add(new Token("", tape.length()));
        return all;
    }

    /** Operators that wait, each with its rank; "(" has rank 0. */
    record Waiting(String sign, int rank) {
    }

    /** A text's three trees; throws Fault. */
    static Tree[] parse(String tape) {
        List<Token> tokens = tokens(tape);
        Tree[] trees = new Tree[3];
        int at = 0;
        String[] keys = {"heats", "cools", "far"};
        for (int part = 0; part < 3; part++) {
            if (!tokens.get(at).text().equals(keys[part])) {
                throw new Fault(tokens.get(at).place());
            }
            Tree[] out = new Tree[1];
            at = expression(tokens, at + 1, out);
            trees[part] = out[0];
        }
        if (!tokens.get(at).text().isEmpty()) {
            throw new Fault(tokens.get(at).place());
        }
        return trees;
    }

    /** A table of states: whether an operand is due, whether "not" may stand, whether a comparison has been. */
    static int expression(List<Token> tokens, int from, Tree[] out) {
        Deque<Tree> values = new ArrayDeque<>();
        Deque<Waiting> waiting = new ArrayDeque<>();
        boolean operand = true;
        boolean notMay = true;
        for (int at = from;; at++) {
            Token token = tokens.get(at);
            String t = token.text();
            if (operand) {
                long open = waiting.stream().filter(w -> List.of("(", "not", "neg").contains(w.sign())).count();
                if (t.equals("(") && open < 5) {
                    waiting.push(new Waiting("(", 0));
                    notMay = true;
                } else if (t.equals("not") && notMay && open < 5) {
                    waiting.push(new Waiting("not", 3));
                } else if (t.equals("-") && open < 5) {
                    waiting.push(new Waiting("neg", 7));
                    notMay = false;
                } else if (t.matches("[0-9]+") || List.of("word", "anger", "number", "hour", "things", "bench").contains(t)) {
                    values.push(leaf(t));
                    close(values, waiting, 7);
                    operand = false;
                } else {
                    throw new Fault(token.place());
                }
                continue;
            }
            int rank = switch (t) {
                case "or" -> 1;
                case "and" -> 2;
                case "<", "=" -> 4;
                case "+", "-" -> 5;
                case "*" -> 6;
                case ")" -> -1;
                case ";" -> -2;
                default -> 0;
            };
            if (rank == 0) {
                throw new Fault(token.place());
            }
            close(values, waiting, rank < 0 ? 1 : rank == 4 ? 5 : rank);
            boolean inParen = !waiting.isEmpty() && waiting.peek().sign().equals("(");
            if (rank == -2) {
                if (!waiting.isEmpty()) {
                    throw new Fault(token.place());
                }
                out[0] = values.pop();
                return at + 1;
            }
            if (rank == -1) {
                if (!inParen) {
                    throw new Fault(token.place());
                }
                waiting.pop();
                close(values, waiting, 7);
                continue;
            }
            if (rank == 4 && !waiting.isEmpty() && waiting.peek().rank() == 4) {
                throw new Fault(token.place());
            }
            waiting.push(new Waiting(t, rank));
            operand = true;
            notMay = rank <= 2;
        }
    }

    static Tree leaf(String t) {
        return switch (t) {
            case "word" -> Names::word;
            case "anger" -> Names::anger;
            case "number" -> Names::number;
            case "hour" -> Names::hour;
            case "things" -> Names::things;
            case "bench" -> Names::bench;
            default -> {
                int v = Integer.parseInt(t);
                yield n -> v;
            }
        };
    }

    /** Ends all that waits with that rank or more. */
    static void close(Deque<Tree> values, Deque<Waiting> waiting, int rank) {
        while (!waiting.isEmpty() && waiting.peek().rank() >= rank && !waiting.peek().sign().equals("(")) {
            String sign = waiting.pop().sign();
            Tree b = values.pop();
            if (sign.equals("not")) {
                values.push(n -> b.worth(n) == 0 ? 1 : 0);
            } else if (sign.equals("neg")) {
                values.push(n -> -b.worth(n));
            } else {
                Tree a = values.pop();
                IntBinaryOperator how = switch (sign) {
                    case "or" -> (x, y) -> (x != 0) | (y != 0) ? 1 : 0;
                    case "and" -> (x, y) -> (x != 0) & (y != 0) ? 1 : 0;
                    case "<" -> (x, y) -> x < y ? 1 : 0;
                    case "=" -> (x, y) -> x == y ? 1 : 0;
                    case "+" -> (x, y) -> x + y;
                    case "-" -> (x, y) -> x - y;
                    default -> (x, y) -> x * y;
                };
                values.push(n -> how.applyAsInt(a.worth(n), b.worth(n)));
            }
        }
    }

    static int clamp(int v, int low, int high) {
        return v < low ? low : v > high ? high : v;
    }

    /** Kinds, each under the one that its class extends. */
    static class Pair {
        int heats(int v, int w, int number, int a) {
            return v;
        }

        int cools(int v, int a) {
            return v;
        }

        int far(int v, int number, int a) {
            return v;
        }
    }

    static class Wed extends Pair {
        @Override
        int heats(int v, int w, int number, int a) {
            return (number % 6 == w ? 2 : 1) * super.heats(v, w, number, a);
        }

        @Override
        int cools(int v, int a) {
            return super.cools(v, a) - 1;
        }
    }

    static class Young extends Pair {
        @Override
        int heats(int v, int w, int number, int a) {
            return super.heats(v, w, number, a) / 2;
        }

        @Override
        int cools(int v, int a) {
            return super.cools(v, a) + 3;
        }

        @Override
        int far(int v, int number, int a) {
            return super.far(v, number, a) - number;
        }
    }

    static class Bitter extends Wed {
        @Override
        int heats(int v, int w, int number, int a) {
            return Math.max(super.heats(v, w, number, a), 0);
        }

        @Override
        int cools(int v, int a) {
            return a > 50 ? 0 : super.cools(v, a);
        }

        @Override
        int far(int v, int number, int a) {
            return super.far(v, number, a) + 5;
        }
    }

    static class Honey extends Young {
        @Override
        int heats(int v, int w, int number, int a) {
            return a < 20 ? -10 : super.heats(v, w, number, a);
        }

        @Override
        int cools(int v, int a) {
            return super.cools(v, a) * 2;
        }

        @Override
        int far(int v, int number, int a) {
            return a == 0 ? 0 : super.far(v, number, a);
        }
    }

    static class Alone extends Pair {
        @Override
        int heats(int v, int w, int number, int a) {
            return 0;
        }

        @Override
        int far(int v, int number, int a) {
            return number * 4;
        }
    }

    static final Pair[] KINDS = {new Pair(), new Wed(), new Young(), new Bitter(), new Honey(), new Alone()};

    record Image(int[] things, int hour, int rule, List<int[]> pairs) {
    }

    private final int[] things = new int[40];
    private int hour;
    private int rule;
    private final List<Tree[]> texts = new ArrayList<>();
    private final StringBuilder tape = new StringBuilder();
    /** Kind, number, anger, told. */
    private List<int[]> pairs = new ArrayList<>();
    private Image image;
    /** byte[], short[], int[] or null. */
    private final Object[] sheets = new Object[4];

    Model() {
        texts.add(parse("heats 5 + word * 3 ; cools 2 ; far anger ;"));
    }

    private boolean is(int pair) {
        return pair >= 0 && pair < pairs.size();
    }

    private int thingCount() {
        return (int) Arrays.stream(things).filter(t -> t != 0).count();
    }

    private int heats(int text, int kind, int number, int a, int w) {
        int v = clamp(texts.get(text)[0].worth(new Names(w, a, number, hour, thingCount(), pairs.size())), -99, 99);
        return clamp(KINDS[kind].heats(v, w, number, a), -99, 99);
    }

    private int cools(int text, int kind, int number, int a) {
        int v = clamp(texts.get(text)[1].worth(new Names(0, a, number, hour, thingCount(), pairs.size())), 0, 99);
        return clamp(KINDS[kind].cools(v, a), 0, 99);
    }

    private int far(int text, int kind, int number, int a) {
        int v = clamp(texts.get(text)[2].worth(new Names(0, a, number, hour, thingCount(), pairs.size())), 0, 40);
        return clamp(KINDS[kind].far(v, number, a), 0, 40);
    }

    private int said(int[] p, int a, int w) {
        return clamp(a + heats(rule, p[0], p[1], a, w), 0, 99);
    }

    private int far(int[] p, int a) {
        return far(rule, p[0], p[1], a);
    }

    private int far(int[] p) {
        return far(p, p[2]);
    }

    int set(int what, int of, int v) {
        int was;
        if (what == 0 && v >= 0 && v <= 99) {
            was = hour;
            hour = v;
        } else if (what == 1 && of >= 0 && of <= 39 && v >= 0 && v <= 7) {
            was = things[of];
            things[of] = v;
        } else if (what == 2 && is(of) && v >= 0 && v <= 9) {
            was = pairs.get(of)[1];
            pairs.get(of)[1] = v;
        } else if (what == 3 && is(of) && v >= 0 && v <= 99) {
            was = pairs.get(of)[2];
            pairs.get(of)[2] = v;
        } else {
            was = BAD;
        }
        return was;
    }

    int pair(int kind, int number, int anger) {
        if (kind < 0 || kind > 5 || number < 0 || number > 9 || anger < 0 || anger > 99) {
            return BAD;
        }
        if (pairs.size() == 5) {
            return FULL;
        }
        pairs.add(new int[] {kind, number, anger, 0});
        return pairs.size() - 1;
    }

    int told(int of, int what) {
        if (what == 0) {
            return hour;
        }
        if (what == 1) {
            return of >= 0 && of <= 39 ? things[of] : -1000;
        }
        if (!is(of)) {
            return -1000;
        }
        int[] p = pairs.get(of);
        return switch (what) {
            case 2 -> p[1];
            case 3 -> p[2];
            case 4 -> p[0];
            case 5 -> p[3];
            case 6 -> cools(rule, p[0], p[1], p[2]);
            case 7 -> far(p);
            case 10, 11, 12, 13, 14, 15 -> heats(rule, p[0], p[1], p[2], what - 10);
            default -> -1000;
        };
    }

    int feed(int letter) {
        if (letter < 0 || letter > 255) {
            return BAD;
        }
        if (tape.length() == 160) {
            return FULL;
        }
        tape.append((char) letter);
        return tape.length();
    }

    int text() {
        if (texts.size() == 6) {
            return FULL;
        }
        String all = tape.toString();
        tape.setLength(0);
        try {
            texts.add(parse(all));
            return texts.size() - 1;
        } catch (Fault f) {
            return -100 - f.place;
        }
    }

    int force(int text) {
        if (text < 0 || text >= texts.size()) {
            return BAD;
        }
        int was = rule;
        rule = text;
        return was;
    }

    int say(int pair, int word) {
        if (!is(pair) || word < 0 || word > 5) {
            return BAD;
        }
        int[] p = pairs.get(pair);
        p[2] = said(p, p[2], word);
        p[3] = Math.min(p[3] + 1, 9999);
        return p[2];
    }

    int quiet(int n) {
        if (n < 0 || n > 99) {
            return BAD;
        }
        for (int minute = 0; minute < n; minute++) {
            for (int[] p : pairs) {
                p[2] = clamp(p[2] - cools(rule, p[0], p[1], p[2]), 0, 99);
            }
        }
        return (int) pairs.stream().filter(p -> p[2] == 0).count();
    }

    private boolean sees(int mile) {
        return pairs.stream().anyMatch(p -> mile < far(p));
    }

    private long miles(IntPredicate which) {
        long bits = 0;
        for (int m = 0; m < 40; m++) {
            bits |= which.test(m) ? 1L << m : 0;
        }
        return bits;
    }

    int view(int what) {
        int most = pairs.stream().mapToInt(this::far).max().orElse(0);
        switch (what) {
            case 0:
                return most;
            case 1:
                return (int) java.util.stream.IntStream.range(0, 40).filter(m -> things[m] != 0 && sees(m)).count();
            case 2:
                int last = 0;
                for (int m = 0; m < 40; m++) {
                    last = things[m] != 0 && sees(m) ? things[m] : last;
                }
                return last;
            case 3:
                for (int i = 0; i < pairs.size(); i++) {
                    if (far(pairs.get(i)) == most) {
                        return i;
                    }
                }
                return NONE;
            case 4:
                for (int m = 39; m >= 0; m--) {
                    if (things[m] != 0) {
                        return whom(m, 1);
                    }
                }
                return 0;
            default:
                return BAD;
        }
    }

    long clear(int what) {
        return switch (what) {
            case 0 -> miles(this::sees);
            case 1 -> miles(m -> whom(m, 0) == NONE);
            case 2 -> miles(m -> things[m] != 0 && sees(m));
            default -> NO;
        };
    }

    /** The first row of the fewest words that leads to such an anger, word by word as digits 1 .. 6; null: never. */
    private String row(int[] p, IntPredicate goal) {
        Map<String, Integer> rows = new TreeMap<>(Map.of("", p[2]));
        for (int length = 0; length <= 100; length++) {
            for (Map.Entry<String, Integer> e : rows.entrySet()) {
                if (goal.test(e.getValue())) {
                    return e.getKey();
                }
            }
            // Of rows of one length that end alike, only the first can begin the first one.
            Map<String, Integer> longer = new TreeMap<>();
            boolean[] met = new boolean[100];
            for (Map.Entry<String, Integer> e : rows.entrySet()) {
                for (int w = 0; w < 6; w++) {
                    int then = said(p, e.getValue(), w);
                    if (!met[then]) {
                        met[then] = true;
                        longer.put(e.getKey() + (w + 1), then);
                    }
                }
            }
            rows = longer;
        }
        return null;
    }

    int fewest(int pair, int k, int what) {
        if (!is(pair) || k < 0 || k > 40 || what < 0 || what > 1) {
            return BAD;
        }
        int[] p = pairs.get(pair);
        String row = row(p, a -> far(p, a) >= k);
        if (row == null) {
            return NONE;
        }
        return what == 0 ? row.length() : row.isEmpty() ? 0 : row.length() > 9 ? NONE : Integer.parseInt(row);
    }

    private boolean[] reached(int[] p) {
        boolean[] met = new boolean[100];
        met[p[2]] = true;
        for (int round = 0; round < 100; round++) {
            for (int a = 0; a < 100; a++) {
                for (int w = 0; met[a] && w < 6; w++) {
                    met[said(p, a, w)] = true;
                }
            }
        }
        return met;
    }

    int words(int pair, int what) {
        if (!is(pair) || what < 0 || what > 5) {
            return BAD;
        }
        int[] p = pairs.get(pair);
        if (what == 0) {
            String row = row(p, a -> a == 0);
            return row == null ? NONE : row.length();
        }
        if (what <= 3) {
            boolean[] met = reached(p);
            int[] all = java.util.stream.IntStream.range(0, 100).filter(a -> met[a]).toArray();
            return what == 1 ? all.length : what == 2 ? all[0] : all[all.length - 1];
        }
        int most = java.util.stream.IntStream.range(0, 6).map(w -> far(p, said(p, p[2], w))).max().getAsInt();
        int first = java.util.stream.IntStream.range(0, 6).filter(w -> far(p, said(p, p[2], w)) == most).findFirst().getAsInt();
        return what == 4 ? first : most;
    }

    /** FAR behind 0, 1, .. minutes. */
    private int[] film(int text, int kind, int number, int anger, int n) {
        int[] all = new int[n];
        int a = anger;
        for (int i = 0; i < n; i++) {
            all[i] = far(text, kind, number, a);
            a = clamp(a - cools(text, kind, number, a), 0, 99);
        }
        return all;
    }

    int stays(int pair, int mile) {
        if (!is(pair) || mile < 0 || mile > 39) {
            return BAD;
        }
        int[] p = pairs.get(pair);
        int[] film = film(rule, p[0], p[1], p[2], 100);
        for (int i = 0; i < 100; i++) {
            if (mile >= film[i]) {
                return i;
            }
        }
        return 100;
    }

    private static long lowest(long above, long below, int part) {
        long d = BigInteger.valueOf(above).gcd(BigInteger.valueOf(below)).longValueExact();
        return part == 0 ? above / d : below / d;
    }

    private long rowsFrom(int[] p, int a, int k, int n, long[][] memo) {
        if (n == 0) {
            return far(p, a) >= k ? 1 : 0;
        }
        if (memo[n][a] < 0) {
            long sum = 0;
            for (int w = 0; w < 6; w++) {
                sum += rowsFrom(p, said(p, a, w), k, n - 1, memo);
            }
            memo[n][a] = sum;
        }
        return memo[n][a];
    }

    long rows(int pair, int k, int n, int part) {
        if (!is(pair) || k < 0 || k > 40 || n < 0 || n > 20 || part < 0 || part > 1) {
            return NO;
        }
        int[] p = pairs.get(pair);
        long[][] memo = new long[21][100];
        for (long[] m : memo) {
            Arrays.fill(m, -1);
        }
        return lowest(rowsFrom(p, p[2], k, n, memo), BigInteger.valueOf(6).pow(n).longValueExact(), part);
    }

    int whom(int mile, int what) {
        if (mile < 0 || mile > 39 || what < 0 || what > 1) {
            return BAD;
        }
        int best = NONE;
        for (int i = 0; i < pairs.size(); i++) {
            int need = fewest(i, mile + 1, 0);
            if (need != NONE && (best == NONE || need < fewest(best, mile + 1, 0))) {
                best = i;
            }
        }
        return what == 0 || best == NONE ? best : fewest(best, mile + 1, 0);
    }

    private static int size(Object sheet) {
        return java.lang.reflect.Array.getLength(sheet);
    }

    private static int number(Object sheet, int i) {
        return sheet instanceof byte[] b ? b[i] : sheet instanceof short[] s ? s[i] : ((int[]) sheet)[i];
    }

    private static int[] numbers(Object sheet) {
        return java.util.stream.IntStream.range(0, size(sheet)).map(i -> number(sheet, i)).toArray();
    }

    private static int bits(int n, IntPredicate which) {
        int bits = 0;
        for (int i = 0; i < n; i++) {
            bits += which.test(i) ? (int) Math.pow(2, i) : 0;
        }
        return bits;
    }

    int tells(int sheet, int pair, int what) {
        if (sheet < 0 || sheet > 3 || !is(pair) || what < 0 || what > 7) {
            return BAD;
        }
        if (sheets[sheet] == null) {
            return -11;
        }
        int[] told = numbers(sheets[sheet]);
        int n = told.length;
        int[] p = pairs.get(pair);
        IntPredicate byAnger = a -> Arrays.equals(told, film(rule, p[0], p[1], a, n));
        return switch (what) {
            case 0 -> Arrays.mismatch(told, film(rule, p[0], p[1], p[2], n));
            case 1 -> bits(6, kind -> Arrays.equals(told, film(rule, kind, p[1], p[2], n)));
            case 2 -> bits(10, number -> Arrays.equals(told, film(rule, p[0], number, p[2], n)));
            case 3 -> (int) java.util.stream.IntStream.range(0, 100).filter(byAnger).count();
            case 4 -> java.util.stream.IntStream.range(0, 100).filter(byAnger).findFirst().orElse(NONE);
            case 5 -> bits(texts.size(), text -> Arrays.equals(told, film(text, p[0], p[1], p[2], n)));
            case 6 -> bits(6, w -> byAnger.test(said(p, p[2], w)));
            default -> bits(pairs.size(), i -> Arrays.equals(told,
                film(rule, pairs.get(i)[0], pairs.get(i)[1], pairs.get(i)[2], n)));
        };
    }

    int film(int sheet, int pair, int n) {
        if (sheet < 0 || sheet > 3 || !is(pair) || n < 0 || n > 40) {
            return BAD;
        }
        int[] p = pairs.get(pair);
        int[] film = film(rule, p[0], p[1], p[2], n);
        byte[] row = new byte[n];
        for (int i = 0; i < n; i++) {
            row[i] = (byte) film[i];
        }
        sheets[sheet] = row;
        return n;
    }

    int drawn(int seed, int pair, int n) {
        if (!is(pair) || n < 0 || n > 99) {
            return BAD;
        }
        int[] p = pairs.get(pair);
        BigInteger z = BigInteger.valueOf(seed);
        int a = p[2];
        for (int i = 0; i < n; i++) {
            z = BigInteger.valueOf(z.multiply(BigInteger.valueOf(1103515245)).add(BigInteger.valueOf(12345)).intValue());
            long unsigned = z.longValue() & 0xffffffffL;
            a = said(p, a, (int) (unsigned / 512 % 6));
        }
        return far(p, a);
    }

    long chance(int seed, int m, int pair, int k, int part) {
        if (!is(pair) || m < 1 || m > 20 || k < 0 || k > 40 || part < 0 || part > 1) {
            return NO;
        }
        long hits = 0;
        for (long s = seed; s < (long) seed + m; s++) {
            hits += drawn((int) s, pair, 8) >= k ? 1 : 0;
        }
        return lowest(hits, m, part);
    }

    private static List<int[]> copies(List<int[]> rows) {
        List<int[]> all = new ArrayList<>();
        for (int[] row : rows) {
            all.add(row.clone());
        }
        return all;
    }

    int image() {
        image = new Image(things.clone(), hour, rule, copies(pairs));
        return pairs.size();
    }

    int back() {
        if (image == null) {
            return STATE;
        }
        System.arraycopy(image.things(), 0, things, 0, 40);
        hour = image.hour();
        rule = image.rule();
        pairs = copies(image.pairs());
        return pairs.size();
    }

    int count(int what) {
        return switch (what) {
            case 0 -> pairs.size();
            case 1 -> thingCount();
            case 2 -> pairs.stream().mapToInt(p -> p[3]).sum();
            case 3 -> texts.size();
            case 4 -> tape.length();
            case 5 -> rule;
            default -> BAD;
        };
    }

    int sheet(int sheet, int sort, int n) {
        if (sheet < 0 || sheet > 3 || sort < -1 || sort > 2) {
            return BAD;
        }
        if (sort == -1) {
            sheets[sheet] = null;
            return 1;
        }
        if (n > 40) {
            return BAD;
        }
        if (n < 0) {
            return -14;
        }
        sheets[sheet] = sort == 0 ? new byte[n] : sort == 1 ? new short[n] : new int[n];
        return 1;
    }

    int cell(int sheet, int i, int v) {
        if (sheet < 0 || sheet > 3) {
            return BAD;
        }
        Object row = sheets[sheet];
        if (row == null) {
            return -11;
        }
        if (i < 0 || i >= size(row)) {
            return -12;
        }
        if (row instanceof byte[] b) {
            b[i] = (byte) v;
        } else if (row instanceof short[] s) {
            s[i] = (short) v;
        } else {
            ((int[]) row)[i] = v;
        }
        return 1;
    }

    @SuppressWarnings("SuspiciousSystemArraycopy")
    int copy(int sheet, int i, int other, int j, int n) {
        if (sheet < 0 || sheet > 3 || other < 0 || other > 3) {
            return BAD;
        }
        if (sheets[sheet] == null || sheets[other] == null) {
            return -11;
        }
        if (sheets[sheet].getClass() != sheets[other].getClass()) {
            return -13;
        }
        try {
            System.arraycopy(sheets[sheet], i, sheets[other], j, n);
            return n;
        } catch (IndexOutOfBoundsException e) {
            return -12;
        }
    }

    int pairs(int sheet, int sort, int from, int n) {
        if (sheet < 0 || sheet > 3 || sort < 0 || sort > 2 || n < 0 || n > 5) {
            return BAD;
        }
        Object row = sheets[sheet];
        try {
            int[] numbers = new int[3];
            int came = 0;
            Object cast = sort == 0 ? (byte[]) row : sort == 1 ? (short[]) row : (int[]) row;
            if (cast == null) {
                return -11;
            }
            for (int i = 0; i < n; i++) {
                for (int j = 0; j < 3; j++) {
                    numbers[j] = number(cast, Math.toIntExact(Math.min(from + 3L * i + j, Integer.MAX_VALUE)));
                }
                came += pair(numbers[0], numbers[1], numbers[2]) >= 0 ? 1 : 0;
            }
            return came;
        } catch (ClassCastException e) {
            return -13;
        } catch (ArrayIndexOutOfBoundsException e) {
            return -12;
        }
    }

    int taken(int pair, int k) {
        if (k < 0 || k > 5) {
            return BAD;
        }
        if (!is(pair)) {
            return -11;
        }
        return KINDS[k].getClass().isInstance(KINDS[pairs.get(pair)[0]]) ? pairs.get(pair)[1] : -13;
    }
}
