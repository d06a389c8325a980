import java.io.IOException;
import java.lang.reflect.Field;
import java.lang.reflect.Method;
import java.lang.reflect.Modifier;
import java.nio.file.Files;
import java.nio.file.Path;
import java.util.Collections;
import java.util.IdentityHashMap;
import java.util.Set;
import java.util.TreeSet;
import java.util.regex.Matcher;
import java.util.regex.Pattern;

/** LANGUAGE.md, as far as it can be seen from outside or by words of the source. */
public final class LanguageTest {
    private static final Pattern THROWN = Pattern.compile("throw (.*);");
    private static final Pattern ALLOWED_THROW = Pattern.compile("new (?:IllegalStateException|IllegalArgumentException"
            + "|IndexOutOfBoundsException|UnsupportedOperationException)\\(\"[a-z ]+\"\\)");

    public static void main(String[] args) throws IOException, ReflectiveOperationException {
        String source = Files.readString(Path.of("src/main/java/StandardRules.java"));
        String code = source.replaceAll("(?s)/\\*.*?\\*/|//[^\n]*", "");
        wordsLeftOut(code);
        Due.compare("imports (rule 4)", "[java.util.Arrays]", found(code, "import ([\\w.]+);").toString());
        throwsAreWrittenOut(code);
        shapeOfClasses();
        handsOutNothing();
        Due.end();
    }

    private static void wordsLeftOut(String code) {
        String[] words = {"->", "::", "\\btry\\b", "\\bcatch\\b", "\\bfinally\\b", "\\bsynchronized\\b", "\\bassert\\b",
            "\\bpackage\\b", "\\bdouble\\b", "\\bfloat\\b", "\\w+Exact\\b", "\\bSystem\\.(?!arraycopy)", "\\bThread\\b",
            "\\.(?:equals|hashCode|toString|getMessage)\\b", "\\bstatic \\{"};
        for (String word : words) {
            Due.compare("left out: " + word, "[]", found(code, "(" + word + ")").toString());
        }
    }

    private static void throwsAreWrittenOut(String code) {
        for (String thrown : found(code, THROWN.pattern())) {
            Due.compare("rule 6: " + thrown, "true", "" + ALLOWED_THROW.matcher(thrown).matches());
        }
    }

    private static void shapeOfClasses() {
        Class<?>[] inside = StandardRules.class.getDeclaredClasses();
        Due.compare("at most twelve classes (rule 11)", "true", "" + (inside.length + 1 <= 12));
        shapeOf(StandardRules.class);
        for (Class<?> one : inside) {
            Due.compare("rule 1: " + one, "true", "" + Modifier.isStatic(one.getModifiers()));
            shapeOf(one);
        }
    }

    private static void shapeOf(Class<?> one) {
        int fields = 0;
        for (Field field : one.getDeclaredFields()) {
            int kind = field.getModifiers();
            fields += Modifier.isStatic(kind) ? 0 : 1;
            Due.compare("rule 5: " + field, "true", "" + (!Modifier.isStatic(kind) || Modifier.isFinal(kind)));
        }
        Due.compare("at most twenty fields (rule 11): " + one, "true", "" + (fields <= 20));
        Set<String> publicNames = new TreeSet<>();
        for (Method method : StandardRules.class.getMethods()) {
            publicNames.add(method.getName());
        }
        for (Method method : one.getDeclaredMethods()) {
            Due.compare("at most seven parameters (rule 11): " + method, "true", "" + (method.getParameterCount() <= 7));
            if (Modifier.isPrivate(method.getModifiers())) {
                Due.compare("rule 1: " + method, "false", "" + publicNames.contains(method.getName()));
            }
        }
    }

    /** Rule 12, "hands out nothing of the object that it makes": no row of a new object is held at two places. */
    private static void handsOutNothing() throws ReflectiveOperationException {
        held(new StandardRules(), Collections.newSetFromMap(new IdentityHashMap<>()));
    }

    private static void held(Object one, Set<Object> before) throws ReflectiveOperationException {
        if (one == null) {
            return;
        }
        boolean isNew = before.add(one);
        Due.compare("rule 12, held once: " + one.getClass(), "true", "" + isNew);
        if (!isNew || one instanceof int[]) {
            return;
        }
        if (one instanceof Object[] row) {
            for (Object element : row) {
                held(element, before);
            }
            return;
        }
        for (Field field : one.getClass().getDeclaredFields()) {
            if (!field.getType().isPrimitive() && !Modifier.isStatic(field.getModifiers())) {
                field.setAccessible(true);
                held(field.get(one), before);
            }
        }
    }

    private static Set<String> found(String code, String pattern) {
        Set<String> found = new TreeSet<>();
        Matcher matcher = Pattern.compile(pattern).matcher(code);
        while (matcher.find()) {
            found.add(matcher.group(1));
        }
        return found;
    }
}
