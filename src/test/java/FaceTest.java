import java.lang.reflect.Constructor;
import java.lang.reflect.Field;
import java.lang.reflect.Method;
import java.lang.reflect.Modifier;
import java.util.Set;
import java.util.TreeSet;

/** The public face: all that the document writes there, and nothing else. */
public final class FaceTest {
    private static final String INDEX = " IndexOutOfBoundsException";
    private static final String TURN = " IllegalStateException";
    private static final String RANGE = " IllegalArgumentException";
    private static final String MEANING = " UnsupportedOperationException";

    public static void main(String[] args) {
        Set<String> want = new TreeSet<>(Set.of(
                "StandardRules()",
                "int sign(long int)" + RANGE + MEANING,
                "int edition(int)" + TURN + RANGE + MEANING,
                "int place()",
                "int change(int int int int)" + INDEX + TURN + RANGE,
                "void order(int int)" + INDEX + RANGE,
                "int value(int int int int int)" + INDEX + TURN + RANGE + MEANING,
                "int open(int)" + INDEX + TURN,
                "int example(int int)" + INDEX + TURN + RANGE,
                "int told(int)" + INDEX,
                "int agreed(int)" + INDEX,
                "int table(int int)" + INDEX));
        Due.compare("face", want.toString(), face().toString());
        Due.compare("class", "public final", Modifier.toString(StandardRules.class.getModifiers()));
        Due.end();
    }

    private static Set<String> face() {
        Set<String> face = new TreeSet<>();
        for (Constructor<?> one : StandardRules.class.getDeclaredConstructors()) {
            face.add("StandardRules(" + names(one.getParameterTypes()) + ")" + behind(one.getExceptionTypes()));
        }
        for (Method one : StandardRules.class.getDeclaredMethods()) {
            if (!Modifier.isPrivate(one.getModifiers()) && !one.isSynthetic()) {
                face.add(one.getReturnType().getSimpleName() + " " + one.getName()
                        + "(" + names(one.getParameterTypes()) + ")" + behind(one.getExceptionTypes()));
            }
        }
        for (Field one : StandardRules.class.getDeclaredFields()) {
            if (!Modifier.isPrivate(one.getModifiers())) {
                face.add(one.getName());
            }
        }
        return face;
    }

    private static String names(Class<?>[] types) {
        return behind(types).trim();
    }

    private static String behind(Class<?>[] types) {
        StringBuilder names = new StringBuilder();
        for (Class<?> type : types) {
            names.append(' ').append(type.getSimpleName());
        }
        return names.toString();
    }
}
