import java.lang.reflect.InvocationTargetException;
import java.lang.reflect.Method;
import java.lang.reflect.Modifier;
import java.util.ArrayList;
import java.util.Arrays;
import java.util.HashMap;
import java.util.List;
import java.util.Map;

/**
 * A sentence of the document, and the run of calls on a new object that would show it broken, a row each:
 * "set 0 0 99 = 5" answers 5; "set 0 0 100 ! BAD" answers BAD and leaves all as it was.
 */
final class Run {
    private static final Map<String, Long> NUMBERS = Map.of(
        "MIN", (long) Integer.MIN_VALUE, "MAX", (long) Integer.MAX_VALUE, "NONE", -1L, "BAD", -2L, "STATE", -3L,
        "FULL", -4L, "NO", -4611686018427387904L, "ALL", (1L << 40) - 1);
    private static final Map<String, Method> METHODS = new HashMap<>();

    static {
        for (Method m : NoViewWithoutQuarrel.class.getDeclaredMethods()) {
            if (Modifier.isPublic(m.getModifiers())) {
                METHODS.put(m.getName(), m);
            }
        }
    }

    record Call(String name, int[] given) {
        @Override
        public String toString() {
            return name + Arrays.toString(given);
        }
    }

    /** An object, and how often it was called: more than 512 times isn't promised. */
    static final class Hill {
        private final NoViewWithoutQuarrel x = new NoViewWithoutQuarrel();
        private int calls;

        long call(String name, int... given) {
            calls++;
            Check.holds("an object has 512 calls at most", calls <= 512);
            Object[] all = new Object[given.length];
            for (int i = 0; i < given.length; i++) {
                all[i] = given[i];
            }
            try {
                return ((Number) METHODS.get(name).invoke(x, all)).longValue();
            } catch (IllegalAccessException | InvocationTargetException e) {
                throw new AssertionError(name + Arrays.toString(given) + " throws", e);
            }
        }
    }

    private final String sentence;
    private final Hill hill = new Hill();
    private final List<Call> calls = new ArrayList<>();

    Run(String sentence, String... rows) {
        this.sentence = sentence;
        then(rows);
    }

    Run then(String... rows) {
        for (String row : rows) {
            String[] parts = row.trim().split(" +");
            int[] given = new int[parts.length - 3];
            for (int i = 0; i < given.length; i++) {
                given[i] = (int) number(parts[i + 1]);
            }
            String how = parts[parts.length - 2];
            Check.holds(row + " is a row", how.equals("=") || how.equals("!"));
            hold(new Call(parts[0], given), number(parts[parts.length - 1]), how.equals("!"));
        }
        return this;
    }

    private static long number(String told) {
        return NUMBERS.containsKey(told) ? NUMBERS.get(told) : Long.parseLong(told);
    }

    private void hold(Call call, long due, boolean still) {
        if (still) {
            holdStill(call);
        }
        Check.due(sentence + ": " + call, hill.call(call.name(), call.given()), due);
        calls.add(call);
    }

    /** Two objects made alike, one of which has the call, answer alike whatever is asked then. */
    private void holdStill(Call call) {
        for (Look look : Look.values()) {
            Hill with = again();
            Hill without = again();
            with.call(call.name(), call.given());
            Check.holds(sentence + ": " + call + " changes nothing of " + look,
                look.at(with).equals(look.at(without)));
        }
    }

    private Hill again() {
        Hill other = new Hill();
        for (Call call : calls) {
            other.call(call.name(), call.given());
        }
        return other;
    }

    /** Letters that come behind the tape. */
    Run tape(String letters) {
        for (char letter : letters.toCharArray()) {
            Call call = new Call("feed", new int[] {letter});
            Check.holds(sentence + ": " + call, hill.call("feed", letter) > 0);
            calls.add(call);
        }
        return this;
    }

    /** A text that is the rule from here on. */
    Run rule(String letters) {
        int number = (int) hill.call("count", 3);
        tape(letters);
        hold(new Call("text", new int[0]), number, false);
        Check.holds(sentence + ": force() of " + letters, hill.call("force", number) >= 0);
        calls.add(new Call("force", new int[] {number}));
        return this;
    }

    Run rule(String heats, String cools, String far) {
        return rule("heats " + heats + ";cools " + cools + ";far " + far + ";");
    }

    /** A sheet of that sort with these numbers. */
    Run sheet(int sheet, int sort, int... numbers) {
        hold(new Call("sheet", new int[] {sheet, sort, numbers.length}), 1, false);
        for (int i = 0; i < numbers.length; i++) {
            hold(new Call("cell", new int[] {sheet, i, numbers[i]}), 1, false);
        }
        return this;
    }

    /** A run in whose midst everything is there that a call could spoil. */
    static Run lively(String sentence) {
        return new Run(sentence, "set 0 0 7 = 0", "set 1 9 2 = 0", "pair 1 3 20 = 0", "say 0 3 = 48", "image = 1",
            "set 0 0 8 = 7", "set 1 0 1 = 0", "set 1 39 7 = 0", "pair 2 4 30 = 1", "pair 4 5 15 = 2", "say 1 2 = 35")
            .rule("word*4-7", "3", "anger-5+bench-things")
            .sheet(0, 0, 1, 2, 3, 4).sheet(1, 1, 5, 4, 3).sheet(2, 2, 0, 1, 2, 3, 4, 5)
            .tape("heats 1;");
    }
}
