import java.lang.reflect.InvocationTargetException;
import java.lang.reflect.Method;
import java.util.Arrays;
import java.util.Comparator;
import java.util.Random;

/** No call throws, whatever its arguments, in whatever state. */
public final class WildTest {
    private static final int[] EDGES = {Integer.MIN_VALUE, -100, -14, -2, -1, 0, 1, 2, 3, 4, 5, 6, 7, 8, 9, 10, 15, 20, 21,
        39, 40, 41, 99, 100, 159, 160, 255, 256, Integer.MAX_VALUE - 1, Integer.MAX_VALUE};

    public static void main(String[] args) throws Exception {
        Method[] methods = Arrays.stream(NoViewWithoutQuarrel.class.getDeclaredMethods())
            .filter(m -> java.lang.reflect.Modifier.isPublic(m.getModifiers()))
            .sorted(Comparator.comparing(Method::getName)).toArray(Method[]::new);
        for (int seed = 0; seed < 600; seed++) {
            Random random = new Random(seed);
            NoViewWithoutQuarrel x = new NoViewWithoutQuarrel();
            for (int i = 0; i < 512; i++) {
                Method m = methods[random.nextInt(methods.length)];
                Object[] given = new Object[m.getParameterCount()];
                for (int j = 0; j < given.length; j++) {
                    given[j] = random.nextInt(3) == 0 ? EDGES[random.nextInt(EDGES.length)] : random.nextInt(random.nextBoolean() ? 6 : 100);
                }
                try {
                    m.invoke(x, given);
                } catch (InvocationTargetException e) {
                    Check.holds(m.getName() + Arrays.toString(given) + " throws " + e.getCause(), false);
                }
            }
            Check.holds("a run", true);
        }
        Check.end();
    }
}
