import java.io.IOException;
import java.lang.reflect.InvocationTargetException;
import java.lang.reflect.Method;
import java.nio.file.DirectoryStream;
import java.nio.file.Files;
import java.nio.file.Path;
import java.util.Set;
import java.util.TreeSet;
import java.util.regex.Matcher;
import java.util.regex.Pattern;

/**
 * README.md as it stands, read from the project's directory: every call that it shows is made, and must answer
 * what stands behind it; so the calls cannot go another way than the file.
 */
public final class ReadmeTest {
    private static final String NEW_OBJECT = "StandardRules rules = new StandardRules();";
    private static final Pattern CALL =
            Pattern.compile("rules\\.(\\w+)\\(([^)]*)\\); +// (-?\\d+|nothing|throws \\w+): (.+)");
    private static final Pattern QUOTED = Pattern.compile("\"(.*)\"");

    private static final Set<String> shown = new TreeSet<>();
    private static StandardRules rules = null;

    public static void main(String[] args) throws IOException, ReflectiveOperationException {
        boolean isJava = false;
        for (String line : Files.readAllLines(Path.of("README.md"))) {
            if (line.startsWith("```")) {
                isJava = line.equals("```java");
                rules = null;
            } else if (isJava) {
                shownLine(line);
            }
        }
        Due.compare("calls shown", namesOfTheFace().toString(), shown.toString());
        everyTestIsNamed();
        readings();
        Due.end();
    }

    private static void shownLine(String line) throws ReflectiveOperationException {
        if (line.equals(NEW_OBJECT)) {
            rules = new StandardRules();
            return;
        }
        Matcher call = CALL.matcher(line);
        Due.compare("form of " + line, "true", "" + (call.matches() && rules != null));
        if (call.matches() && rules != null) {
            shown.add(call.group(1));
            String[] arguments = call.group(2).isEmpty() ? new String[0] : call.group(2).split(", ");
            Due.compare(line, call.group(3), answerOf(call.group(1), arguments));
            quotedBytes(line, call.group(4), arguments);
        }
    }

    private static String answerOf(String name, String[] arguments) throws ReflectiveOperationException {
        Method method = methodOf(name);
        Class<?>[] types = method.getParameterTypes();
        Due.compare("arguments of " + name, "" + types.length, "" + arguments.length);
        Object[] values = new Object[types.length];
        for (int i = 0; i < types.length; i++) {
            if (types[i] == long.class) {
                values[i] = Long.parseUnsignedLong(arguments[i].replaceAll("0x|L", ""), 16);
            } else {
                values[i] = Integer.parseInt(arguments[i]);
            }
        }
        try {
            Object answer = method.invoke(rules, values);
            return answer == null ? "nothing" : answer.toString();
        } catch (InvocationTargetException e) {
            return "throws " + e.getCause().getClass().getSimpleName();
        }
    }

    /** A text in quotes behind a call of sign is what its bytes write. */
    private static void quotedBytes(String line, String words, String[] arguments) {
        Matcher quoted = QUOTED.matcher(words);
        if (quoted.find()) {
            StringBuilder hex = new StringBuilder("0x");
            for (char one : quoted.group(1).toCharArray()) {
                hex.append(String.format("%02X", (int) one));
            }
            Due.compare("bytes of " + line, hex.append("L, ").append(quoted.group(1).length()).toString(),
                    String.join(", ", arguments));
        }
    }

    private static Method methodOf(String name) throws NoSuchMethodException {
        for (Method method : StandardRules.class.getMethods()) {
            if (method.getName().equals(name)) {
                return method;
            }
        }
        throw new NoSuchMethodException(name);
    }

    private static Set<String> namesOfTheFace() {
        Set<String> names = new TreeSet<>();
        for (Method method : StandardRules.class.getMethods()) {
            if (method.getDeclaringClass() == StandardRules.class) {
                names.add(method.getName());
            }
        }
        return names;
    }

    private static void everyTestIsNamed() throws IOException {
        Set<String> there = new TreeSet<>();
        try (DirectoryStream<Path> files = Files.newDirectoryStream(Path.of("src/test/java"), "*Test.java")) {
            for (Path file : files) {
                there.add(file.getFileName().toString().replace(".java", ""));
            }
        }
        Set<String> named = new TreeSet<>();
        Matcher name = Pattern.compile("\\w+Test\\b").matcher(Files.readString(Path.of("README.md")));
        while (name.find()) {
            named.add(name.group());
        }
        Due.compare("tests named", there.toString(), named.toString());
    }

    private static void readings() {
        Due.sentence("Blanks (byte 32 alone) may also stand ahead of the first sign and behind the last one", () -> {
            Due.right("  [1]a=1;  ");
            Due.wrong("\t[1]a=1;", 0);
            Due.wrong("[1]a=1;\n", 7);
        });
        Due.sentence("A text that ends too soon is wrong at its length", () -> {
            Due.wrong("[1]" + " ".repeat(197), 200);
            Due.wrong("[1]" + " ".repeat(195), 198);
        });
        Due.sentence("told(1) is 0 when no edition counts", () ->
                Due.is("told(1)", 0, () -> new StandardRules().told(1)));
        Due.sentence("A change gives value an answer also when no edition counts", () -> {
            StandardRules x = new StandardRules();
            x.change(0, 3, 0, 17);
            Due.is("value", 17, () -> x.value(3, 0, 0, 0, 0));
            Due.is("example", -1, () -> x.example(3, 5));
        });
        Due.sentence("A rule does not stand ahead of itself", () -> Due.wrong("[1]a=a;", 5));
        Due.sentence("open is about value alone", ReadmeTest::openIsAboutValue);
        Due.sentence("edition that is refused for its turn or its day leaves the tape and place", () -> {
            StandardRules x = new StandardRules();
            Due.is("an empty text", Due.MEANING, () -> x.edition(0));
            Due.write(x, "[1]a=1;");
            Due.is("its day", Due.RANGE, () -> x.edition(10000));
            Due.is("place", 0, () -> x.place());
            Due.is("the tape", 0, () -> x.edition(9999));
        });
    }

    private static void openIsAboutValue() {
        StandardRules x = Due.having("[1]a=1/w;b=kt;");
        Due.is("open", Due.MEANING, () -> x.value(1, 1, 1, 0, 0));
        Due.is("not open", 1, () -> x.value(0, 1, 0, 0, 0));
        Due.is("example", 0, () -> x.example(0, 5));
        Due.is("rule", 1, () -> x.open(0));
        Due.is("why", 1, () -> x.open(1));
    }
}
