import java.lang.reflect.Constructor;
import java.lang.reflect.Field;
import java.lang.reflect.Method;
import java.lang.reflect.Modifier;
import java.util.Arrays;
import java.util.Set;
import java.util.TreeSet;

/** The class has the document's face, with its exceptions in their order, and nothing more. */
public final class EventKeeperFaceTest {
    private static final String A = "IllegalArgumentException";
    private static final String S = "IllegalStateException";
    private static final String I = "IndexOutOfBoundsException";
    private static final Set<String> FACE = Set.of(
            "int append(int, int, int, long) [" + A + ", " + S + ", " + I + "]",
            "void rule(int, int, int, int) [" + A + "]",
            "int advance(int, int) [" + A + "]",
            "int save(int) [" + A + "]",
            "long cell(int, int) [" + A + ", " + I + "]",
            "void filter(int, int, int) [" + A + "]",
            "int next(int) [" + A + "]",
            "int acknowledge(int, int) [" + A + ", " + I + "]",
            "int sync() []",
            "int crash() []",
            "int event(int, int) [" + A + ", " + I + "]",
            "long value(int) [" + I + "]",
            "int find(int, int) [" + A + ", " + I + "]",
            "int count(int, int) [" + A + "]");

    public static void main(String[] args) {
        Checks checks = new Checks();
        checks.sentence("The public face", "and no more");
        Class<?> it = EventKeeper.class;
        checks.compare("the class", "public final", Modifier.toString(it.getModifiers()));
        Set<String> names = new TreeSet<>();
        Set<String> face = new TreeSet<>();
        for (Method m : it.getDeclaredMethods()) {
            if (Modifier.isPublic(m.getModifiers())) {
                names.add(m.getName());
                face.add(written(m));
            }
        }
        checks.compare("the public methods", new TreeSet<>(FACE).toString(), face.toString());
        for (Method m : it.getDeclaredMethods()) {
            if (!Modifier.isPublic(m.getModifiers())) {
                checks.compare(m + " is private", "true", "" + Modifier.isPrivate(m.getModifiers()));
                checks.compare(m + " has a name of its own", "true", "" + !names.contains(m.getName()));
            }
        }
        for (Field f : it.getDeclaredFields()) {
            checks.compare(f + " is private and final", "true",
                    "" + (Modifier.isPrivate(f.getModifiers()) && Modifier.isFinal(f.getModifiers())));
        }
        Constructor<?>[] constructors = it.getDeclaredConstructors();
        checks.compare("the constructors", "[public EventKeeper()]", Arrays.toString(constructors));
        for (Class<?> inside : it.getDeclaredClasses()) {
            checks.compare(inside + " is static", "true", "" + Modifier.isStatic(inside.getModifiers()));
        }
        checks.end();
    }

    private static String written(Method m) {
        return m.getReturnType() + " " + m.getName() + plain(m.getParameterTypes(), "(", ")") + " "
                + plain(m.getExceptionTypes(), "[", "]");
    }

    private static String plain(Class<?>[] types, String open, String close) {
        StringBuilder b = new StringBuilder(open);
        for (int i = 0; i < types.length; i++) {
            b.append(i == 0 ? "" : ", ").append(types[i].getSimpleName());
        }
        return b.append(close).toString();
    }
}
