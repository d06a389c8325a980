import java.util.ArrayList;
import java.util.List;
import java.util.function.Consumer;
import java.util.function.IntSupplier;
import java.util.function.Supplier;

/**
 * Terms: "What is refused changes nothing (but the tape, where that is said)." Two objects are brought to
 * the same state, one is asked what it must refuse; from then on both must answer alike, whatever is asked.
 */
public final class RefusedTest {
    private static final int LOWEST = Integer.MIN_VALUE;
    private static final int HIGHEST = Integer.MAX_VALUE;

    public static void main(String[] args) {
        for (Supplier<StandardRules> start : List.<Supplier<StandardRules>>of(StandardRules::new, RefusedTest::busy)) {
            Due.sentence("What is refused changes nothing: sign", () -> sign(start));
            Due.sentence("What is refused changes nothing: edition", () -> edition(start));
            Due.sentence("What is refused changes nothing: change", () -> change(start));
            Due.sentence("What is refused changes nothing: order", () -> order(start));
            Due.sentence("What is refused changes nothing: value", () -> value(start));
            Due.sentence("What is refused changes nothing: the other calls", () -> others(start));
        }
        Due.sentence("What is refused changes nothing: an empty object", RefusedTest::empty);
        Due.sentence("What is refused changes nothing: a full object", RefusedTest::whenFull);
        Due.sentence("(but the tape, where that is said)", RefusedTest::wrongText);
        Due.sentence("What is refused changes nothing: an open value", RefusedTest::openValue);
        Due.end();
    }

    private static void sign(Supplier<StandardRules> start) {
        for (int n : new int[] {LOWEST, -1, 0, 9, HIGHEST}) {
            changesNothing(start, Due.RANGE, x -> x.sign('!', n));
        }
    }

    private static void edition(Supplier<StandardRules> start) {
        for (int day : new int[] {LOWEST, -1, 10000, HIGHEST}) {
            changesNothing(start, Due.RANGE, x -> x.edition(day));
        }
    }

    private static void change(Supplier<StandardRules> start) {
        changesNothing(start, Due.INDEX, x -> x.change(-1, 0, 9, 1));
        changesNothing(start, Due.INDEX, x -> x.change(10, 0, 9, 1));
        changesNothing(start, Due.INDEX, x -> x.change(1, -1, 9, 1));
        changesNothing(start, Due.INDEX, x -> x.change(0, 8, 9, 1));
        changesNothing(start, Due.RANGE, x -> x.change(0, 0, -1, 1));
        changesNothing(start, Due.RANGE, x -> x.change(0, 0, 10, 1));
        changesNothing(start, Due.RANGE, x -> x.change(0, 0, 9, -10000));
        changesNothing(start, Due.RANGE, x -> x.change(0, 0, 9, 10000));
    }

    private static void order(Supplier<StandardRules> start) {
        changesNothing(start, Due.INDEX, x -> x.order(-1, 7));
        changesNothing(start, Due.INDEX, x -> x.order(10, 7));
        changesNothing(start, Due.RANGE, x -> x.order(7, -1));
        changesNothing(start, Due.RANGE, x -> x.order(7, 10000));
    }

    private static void value(Supplier<StandardRules> start) {
        changesNothing(start, Due.INDEX, x -> x.value(-1, 0, 0, 0, 0));
        changesNothing(start, Due.INDEX, x -> x.value(8, 0, 0, 0, 0));
        changesNothing(start, Due.TURN, x -> x.value(7, 0, 0, 0, 0));
        changesNothing(start, Due.INDEX, x -> x.example(-1, 5));
        changesNothing(start, Due.INDEX, x -> x.example(8, 5));
        changesNothing(start, Due.TURN, x -> x.example(7, 5));
    }

    private static void others(Supplier<StandardRules> start) {
        changesNothing(start, Due.INDEX, x -> x.open(-1));
        changesNothing(start, Due.INDEX, x -> x.open(2));
        changesNothing(start, Due.INDEX, x -> x.told(-1));
        changesNothing(start, Due.INDEX, x -> x.told(5));
        changesNothing(start, Due.INDEX, x -> x.agreed(-1));
        changesNothing(start, Due.INDEX, x -> x.agreed(8));
        changesNothing(start, Due.INDEX, x -> x.table(-1, 0));
        changesNothing(start, Due.INDEX, x -> x.table(6, 0));
        changesNothing(start, Due.INDEX, x -> x.table(0, -2));
        changesNothing(start, Due.INDEX, x -> x.table(0, 8));
    }

    private static void empty() {
        changesNothing(StandardRules::new, Due.TURN, x -> x.open(0));
        changesNothing(StandardRules::new, Due.TURN, x -> x.value(0, 0, 0, 0, 0));
        changesNothing(StandardRules::new, Due.TURN, x -> x.example(0, 0));
        changesNothing(StandardRules::new, Due.INDEX, x -> x.table(0, -1));
        changesNothing(RefusedTest::busy, Due.RANGE, x -> x.value(0, 0, 10000, 0, 0));
        changesNothing(RefusedTest::busy, Due.RANGE, x -> x.value(1, 0, 0, 0, -1));
        changesNothing(RefusedTest::busy, Due.RANGE, x -> x.example(0, -1));
        changesNothing(RefusedTest::busy, Due.RANGE, x -> x.example(1, 6));
    }

    private static void whenFull() {
        for (int n : new int[] {1, 2, 8}) {
            changesNothing(RefusedTest::fullTape, Due.MEANING, x -> x.sign('!', n));
        }
        changesNothing(RefusedTest::almostFullTape, Due.MEANING, x -> x.sign('!', 2));
        changesNothing(RefusedTest::almostFullTape, Due.MEANING, x -> x.sign('!', 8));
        changesNothing(RefusedTest::full, Due.TURN, x -> x.edition(0));
        changesNothing(RefusedTest::full, Due.TURN, x -> x.change(0, 0, 9, 1));
        changesNothing(RefusedTest::full, Due.TURN, x -> x.change(9, 7, 9, 1));
    }

    /** Of a wrong text the tape is used up and the place told; nothing else comes of it. */
    private static void wrongText() {
        for (String text : new String[] {"", "[7,7,7,7,7,7,7,7]h=1;!", "[9]a=1;b=2;c=3;d=4;e=5;f=6;g=7;h=8;h"}) {
            StandardRules with = busyWithoutTape();
            Due.write(with, text);
            Due.is("wrong", Due.MEANING, () -> with.edition(0));
            Due.is("its place", text.isEmpty() ? 0 : text.length() - 1, () -> with.place());
            StandardRules without = busyWithoutTape();
            Due.compare("answers behind " + text, answers(without, "place "), answers(with, "place "));
        }
    }

    /** Of an open value open() tells; nothing else comes of it. */
    private static void openValue() {
        for (int t : new int[] {0, 9}) {
            StandardRules with = busy();
            Due.is("open", Due.MEANING, () -> with.value(1, 0, t, 0, 0));
            StandardRules without = busy();
            Due.compare("answers behind it", answers(without, "open "), answers(with, "open "));
        }
    }

    private static void changesNothing(Supplier<StandardRules> start, String want, Consumer<StandardRules> call) {
        StandardRules with = start.get();
        Due.refuses("the call", want, () -> call.accept(with));
        Due.compare("answers behind it", answers(start.get(), null), answers(with, null));
    }

    /** Editions, changes, an order, a wrong text and an open value behind it, a text begun on the tape. */
    private static StandardRules busy() {
        StandardRules x = busyWithoutTape();
        Due.write(x, "[3,4]c=w;b");
        return x;
    }

    private static StandardRules busyWithoutTape() {
        StandardRules x = Due.having("[5,6]a=k1;b=1/t+kt;");
        Due.write(x, "[8,9,10]a=w;b=10/t+kt;c=b;");
        x.edition(20);
        x.change(4, 0, 5, 40);
        x.change(4, 2, 5, 41);
        x.change(0, 0, 3, 42);
        x.order(4, 25);
        Due.is("open", Due.MEANING, () -> x.value(1, 0, 5, 0, 0));
        Due.write(x, "[1]a=!");
        Due.is("wrong", Due.MEANING, () -> x.edition(3));
        return x;
    }

    private static StandardRules almostFullTape() {
        StandardRules x = new StandardRules();
        Due.write(x, "[5]a=1;" + " ".repeat(192));
        return x;
    }

    private static StandardRules fullTape() {
        StandardRules x = almostFullTape();
        x.sign(' ', 1);
        return x;
    }

    private static StandardRules full() {
        StandardRules x = new StandardRules();
        for (int i = 0; i < 6; i++) {
            Due.write(x, "[" + i + "]a=" + i + ";");
            x.edition(i);
        }
        for (int i = 0; i < 20; i++) {
            x.change(i % 10, i % 8, 2, i);
        }
        Due.write(x, "[7]b=7");
        return x;
    }

    /** All that can be asked of an object; what begins with the word left out is not told. */
    private static String answers(StandardRules x, String leftOut) {
        List<String> told = new ArrayList<>();
        ask(told, "place ", x::place);
        ask(told, "open 0 ", () -> x.open(0));
        ask(told, "open 1 ", () -> x.open(1));
        askOfTheOrder(told, x);
        for (int i = 0; i < 7 * 9; i++) {
            int at = i;
            ask(told, "table ", () -> x.table(at / 9, at % 9 - 1));
        }
        ask(told, "sign ", () -> x.sign(' ', 1));
        ask(told, "edition ", () -> x.edition(9999));
        ask(told, "place of it ", x::place);
        ask(told, "change ", () -> x.change(9, 7, 0, -5));
        for (int i = 0; i < 10; i++) {
            x.order(i, 9999);
            askOfTheOrder(told, x);
        }
        told.removeIf(answer -> leftOut != null && answer.startsWith(leftOut) && !answer.startsWith("place of it"));
        return told.toString();
    }

    private static void askOfTheOrder(List<String> told, StandardRules x) {
        for (int i = 0; i < 5; i++) {
            int what = i;
            ask(told, "told " + i + " ", () -> x.told(what));
        }
        for (int i = 0; i < 8; i++) {
            int rule = i;
            ask(told, "agreed ", () -> x.agreed(rule));
            ask(told, "value ", () -> x.value(rule, 1, 2, 3, 4));
            ask(told, "example ", () -> x.example(rule, 1));
        }
    }

    private static void ask(List<String> told, String what, IntSupplier call) {
        told.add(what + Due.answer(call));
    }
}
