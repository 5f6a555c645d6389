import java.lang.reflect.Field;
import java.lang.reflect.Method;
import java.lang.reflect.Modifier;
import java.util.Arrays;
import java.util.Set;
import java.util.TreeSet;

/** The public face, and that nothing else can be seen from outside; LanguageTest has the other rules. */
public final class FaceTest {
    private static final Class<?> FACE = NoViewWithoutQuarrel.class;
    private static final String METHODS = "int set(int,int,int) int pair(int,int,int) int told(int,int) int feed(int) int text() "
        + "int force(int) int say(int,int) int quiet(int) int view(int) long clear(int) int fewest(int,int,int) "
        + "int words(int,int) int stays(int,int) long rows(int,int,int,int) int whom(int,int) int tells(int,int,int) "
        + "int film(int,int,int) int drawn(int,int,int) long chance(int,int,int,int,int) int image() int back() "
        + "int count(int) int sheet(int,int,int) int cell(int,int,int) int copy(int,int,int,int,int) "
        + "int pairs(int,int,int,int) int taken(int,int)";

    public static void main(String[] args) {
        face();
        insideClasses();
        Check.end();
    }

    private static void face() {
        Check.holds("the class is public and final", FACE.getModifiers() == (Modifier.PUBLIC | Modifier.FINAL));
        Check.due("constructors", FACE.getDeclaredConstructors().length, 1);
        Check.holds("the constructor is public", Modifier.isPublic(FACE.getDeclaredConstructors()[0].getModifiers()));
        Check.due("its parameters", FACE.getDeclaredConstructors()[0].getParameterCount(), 0);
        Set<String> due = new TreeSet<>(Arrays.asList(METHODS.replaceAll("\\) ", ")|").split("\\|")));
        Set<String> names = new TreeSet<>();
        Set<String> got = new TreeSet<>();
        for (Method m : FACE.getDeclaredMethods()) {
            String types = Arrays.toString(m.getParameterTypes()).replaceAll("[\\[\\] ]", "");
            if (Modifier.isPublic(m.getModifiers())) {
                got.add(m.getReturnType() + " " + m.getName() + "(" + types + ")");
                names.add(m.getName());
            }
        }
        Check.holds("the public methods are " + got, got.equals(due));
        for (Method m : FACE.getDeclaredMethods()) {
            Check.holds(m + " is public or private", Modifier.isPublic(m.getModifiers())
                || Modifier.isPrivate(m.getModifiers()) && !names.contains(m.getName()));
        }
        Set<String> constants = new TreeSet<>();
        for (Field f : FACE.getDeclaredFields()) {
            if (Modifier.isPublic(f.getModifiers())) {
                constants.add(f.getType() + " " + f.getName());
            } else {
                Check.holds(f + " is private", Modifier.isPrivate(f.getModifiers()));
            }
            Check.holds(f + " is final where it is static", !Modifier.isStatic(f.getModifiers()) || Modifier.isFinal(f.getModifiers()));
        }
        Check.holds("the constants are " + constants,
            constants.equals(Set.of("int NONE", "int BAD", "int STATE", "int FULL", "long NO")));
        Check.due("NONE", NoViewWithoutQuarrel.NONE, -1);
        Check.due("BAD", NoViewWithoutQuarrel.BAD, -2);
        Check.due("STATE", NoViewWithoutQuarrel.STATE, -3);
        Check.due("FULL", NoViewWithoutQuarrel.FULL, -4);
        Check.due("NO", NoViewWithoutQuarrel.NO, -4611686018427387904L);
    }

    private static void insideClasses() {
        Class<?>[] inside = FACE.getDeclaredClasses();
        Check.holds("some twelve classes at most", inside.length <= 11);
        for (Class<?> c : inside) {
            Check.holds(c + " is static", Modifier.isStatic(c.getModifiers()));
            Check.holds(c + " is not public or protected", (c.getModifiers() & (Modifier.PUBLIC | Modifier.PROTECTED)) == 0);
            Check.holds(c + " has no class of its own", c.getDeclaredClasses().length == 0);
            Check.holds(c + " has at most twenty fields", c.getDeclaredFields().length <= 20);
            for (Method m : c.getDeclaredMethods()) {
                Check.holds(m + " has at most seven parameters", m.getParameterCount() <= 7);
                for (Method p : FACE.getDeclaredMethods()) {
                    Check.holds(m + " bears no public name", !Modifier.isPublic(p.getModifiers()) || !p.getName().equals(m.getName()));
                }
            }
        }
    }
}
