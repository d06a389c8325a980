import java.lang.management.ManagementFactory;
import java.lang.reflect.Field;
import java.lang.reflect.Modifier;
import java.util.Collections;
import java.util.IdentityHashMap;
import java.util.Map;
import java.util.Set;
import java.util.TreeMap;

/**
 * Terms: "All memory is rows made once, but the parts of rules that are read." What an object holds after
 * a long run of calls is what it held when it was new, and parts; and calls that read no rules make nothing.
 */
public final class MemoryTest {
    /** Seven rules in 200 bytes: 3 for the table, 2 for each rule's head, 2 for each part and the sign behind it. */
    private static final int MOST_PARTS_OF_A_TEXT = (200 - 3 - 7 * 2) / 2;

    public static void main(String[] args) throws ReflectiveOperationException {
        Due.sentence("All memory is rows made once", MemoryTest::makesNothing);
        holdsRowsAndParts();
        Due.end();
    }

    private static void makesNothing() {
        long least = Long.MAX_VALUE;
        // The machine itself may make something the first time that code is run.
        for (int i = 0; i < 10; i++) {
            least = Math.min(least, bytesMadeByARun());
        }
        Due.compare("bytes made by calls that read no rules", "0", "" + least);
    }

    private static long bytesMadeByARun() {
        StandardRules x = Due.having("[1,2,3]a=w+t+1;b=6/a;c=k0*b;");
        var counter = (com.sun.management.ThreadMXBean) ManagementFactory.getThreadMXBean();
        long thread = Thread.currentThread().getId();
        long before = counter.getThreadAllocatedBytes(thread);
        for (int i = 0; i < 20; i++) {
            x.sign(0x5B, 1 + i % 8);
            x.change(i % 10, 7, i % 10, i);
            x.order(i % 10, i);
            x.value(i % 3, i, i, i, i);
            x.example(i % 3, 5);
            x.told(i % 5);
            x.agreed(i % 8);
            x.table(0, i % 3);
            x.place();
        }
        return counter.getThreadAllocatedBytes(thread) - before;
    }

    private static void holdsRowsAndParts() throws ReflectiveOperationException {
        StandardRules x = new StandardRules();
        Set<Object> before = heldBy(x);
        int calls = run(x);
        Set<Object> after = heldBy(x);
        Due.compare("calls of the run", "true", "" + (calls > 400 && calls <= 512));
        Due.compare("rows that were there are there still", "true", "" + after.containsAll(before));
        after.removeAll(before);
        Map<String, Integer> kinds = new TreeMap<>();
        for (Object one : after) {
            kinds.merge(one.getClass().getSimpleName(), 1, Integer::sum);
        }
        Due.compare("kinds of what is new", "[Part]", kinds.keySet().toString());
        Due.compare("no more parts than six texts have", "true",
                "" + (after.size() <= 6 * MOST_PARTS_OF_A_TEXT));
    }

    /** Fills all that can be filled, refused calls among the others; answers how many calls it took. */
    private static int run(StandardRules x) {
        int calls = 0;
        String text = "[1,2,3,4,5,6,7,8]a=1/w;b=kt+a;c=b*b*b-a;h=" + "n+".repeat(4) + "n;";
        for (int i = 0; i < 7; i++) {
            for (String told : new String[] {text + "!", text}) {
                Due.write(x, told);
                int day = i;
                Due.answer(() -> x.edition(day));
                calls += (told.length() + 7) / 8 + 1;
            }
        }
        for (int i = 0; i < 48; i++) {
            int at = i;
            Due.answer(() -> x.change(at % 10, at % 8, at % 10, at));
            Due.answer(() -> x.order(at % 11, at));
            Due.answer(() -> x.value(at % 9, at % 3, at % 4, 0, 0));
            Due.answer(() -> x.example(at % 8, at % 6));
            Due.answer(() -> x.open(at % 3));
            Due.answer(() -> x.told(at % 6));
            Due.answer(() -> x.agreed(at % 9));
            Due.answer(() -> x.table(at % 7, at % 9));
            calls += 8;
        }
        return calls;
    }

    private static Set<Object> heldBy(Object root) throws ReflectiveOperationException {
        Set<Object> held = Collections.newSetFromMap(new IdentityHashMap<>());
        collect(root, held);
        return held;
    }

    private static void collect(Object one, Set<Object> held) throws ReflectiveOperationException {
        if (one == null || !held.add(one)) {
            return;
        }
        if (one instanceof Object[] row) {
            for (Object element : row) {
                collect(element, held);
            }
        } else if (!one.getClass().isArray()) {
            for (Field field : one.getClass().getDeclaredFields()) {
                if (!field.getType().isPrimitive() && !Modifier.isStatic(field.getModifiers())) {
                    field.setAccessible(true);
                    collect(field.get(one), held);
                }
            }
        }
    }
}
