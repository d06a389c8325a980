/**
 * Terms: "Checks are made in this order: index: IndexOutOfBoundsException; call out of turn:
 * IllegalStateException; range: IllegalArgumentException; meaning: UnsupportedOperationException."
 * Each call here fails two checks or more and is due the first of them.
 */
public final class ChecksTest {
    public static void main(String[] args) {
        Due.sentence("Checks are made in this order: sign", ChecksTest::sign);
        Due.sentence("Checks are made in this order: edition", ChecksTest::edition);
        Due.sentence("Checks are made in this order: change", ChecksTest::change);
        Due.sentence("Checks are made in this order: order", ChecksTest::order);
        Due.sentence("Checks are made in this order: value", ChecksTest::value);
        Due.sentence("Checks are made in this order: open", ChecksTest::open);
        Due.sentence("Checks are made in this order: example", ChecksTest::example);
        Due.sentence("Checks are made in this order: a changed rule", ChecksTest::changedRule);
        Due.end();
    }

    private static void sign() {
        StandardRules x = new StandardRules();
        Due.write(x, " ".repeat(200));
        Due.is("range, meaning", Due.RANGE, () -> x.sign(0, 9));
        Due.is("range, meaning", Due.RANGE, () -> x.sign(0, Integer.MAX_VALUE));
        Due.is("range", Due.RANGE, () -> x.sign(0, 0));
        Due.is("meaning", Due.MEANING, () -> x.sign(0, 1));
    }

    private static void edition() {
        StandardRules x = new StandardRules();
        for (int i = 0; i < 6; i++) {
            Due.write(x, "[1]a=1;");
            x.edition(0);
        }
        Due.is("turn, range, meaning", Due.TURN, () -> x.edition(-1));
        Due.is("turn, meaning", Due.TURN, () -> x.edition(0));
        Due.is("not read", -1, () -> x.place());
        Due.write(x, "[1]a=1;");
        Due.is("turn, range", Due.TURN, () -> x.edition(10000));
        StandardRules y = new StandardRules();
        Due.write(y, "[1]!");
        Due.is("range, meaning", Due.RANGE, () -> y.edition(10000));
        Due.is("not read", -1, () -> y.place());
        Due.is("meaning", Due.MEANING, () -> y.edition(9999));
        Due.is("read", 3, () -> y.place());
    }

    private static void change() {
        StandardRules x = new StandardRules();
        Due.is("index, range", Due.INDEX, () -> x.change(10, 0, 10, 0));
        Due.is("index, range", Due.INDEX, () -> x.change(0, 8, 0, 10000));
        for (int i = 0; i < 20; i++) {
            x.change(0, 0, 0, 0);
        }
        Due.is("index, turn, range", Due.INDEX, () -> x.change(-1, 0, -1, 0));
        Due.is("index, turn, range", Due.INDEX, () -> x.change(0, -1, 0, -10000));
        Due.is("index, turn", Due.INDEX, () -> x.change(10, 0, 0, 0));
        Due.is("index, turn", Due.INDEX, () -> x.change(0, 8, 0, 0));
        Due.is("turn, range", Due.TURN, () -> x.change(0, 0, 10, 0));
        Due.is("turn, range", Due.TURN, () -> x.change(0, 0, 0, 10000));
    }

    private static void order() {
        StandardRules x = new StandardRules();
        Due.refuses("index, range", Due.INDEX, () -> x.order(10, 10000));
        Due.refuses("index, range", Due.INDEX, () -> x.order(-1, -1));
        Due.refuses("range", Due.RANGE, () -> x.order(9, -1));
    }

    private static void value() {
        StandardRules x = new StandardRules();
        Due.is("index, turn, range", Due.INDEX, () -> x.value(8, -1, 0, 0, 0));
        Due.is("index, turn", Due.INDEX, () -> x.value(-1, 0, 0, 0, 0));
        Due.is("turn, range, no edition", Due.TURN, () -> x.value(0, -1, 0, 0, 0));
        Due.write(x, "[1]a=1/w;");
        x.edition(0);
        Due.is("index, range", Due.INDEX, () -> x.value(8, 10000, 0, 0, 0));
        Due.is("turn, range, no such rule", Due.TURN, () -> x.value(1, 0, 0, 0, 10000));
        Due.is("range, meaning", Due.RANGE, () -> x.value(0, 0, 0, 0, 10000));
        Due.is("range, meaning", Due.RANGE, () -> x.value(0, 0, -1, 0, 0));
        Due.is("not found open by these", Due.TURN, () -> x.open(0));
        Due.is("meaning", Due.MEANING, () -> x.value(0, 0, 0, 0, 0));
    }

    private static void open() {
        StandardRules x = new StandardRules();
        Due.is("index, turn", Due.INDEX, () -> x.open(2));
        Due.is("index, turn", Due.INDEX, () -> x.open(-1));
        Due.is("turn", Due.TURN, () -> x.open(1));
    }

    private static void example() {
        StandardRules x = new StandardRules();
        Due.is("index, turn, range", Due.INDEX, () -> x.example(8, 6));
        Due.is("index, turn", Due.INDEX, () -> x.example(-1, 0));
        Due.is("turn, range, no edition", Due.TURN, () -> x.example(0, 6));
        Due.write(x, "[1]a=1/w;");
        x.edition(0);
        Due.is("index, range", Due.INDEX, () -> x.example(8, -1));
        Due.is("turn, range, no such rule", Due.TURN, () -> x.example(1, 6));
        Due.is("range", Due.RANGE, () -> x.example(0, 6));
    }

    private static void changedRule() {
        StandardRules x = new StandardRules();
        x.change(0, 0, 0, 5);
        Due.is("range of value", Due.RANGE, () -> x.value(0, -1, 0, 0, 0));
        Due.is("range of example", Due.RANGE, () -> x.example(0, 6));
        Due.is("turn of another rule, range", Due.TURN, () -> x.value(1, -1, 0, 0, 0));
        Due.is("turn of another rule, range", Due.TURN, () -> x.example(1, 6));
    }
}
