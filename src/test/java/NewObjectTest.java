/** Promise 1. */
public final class NewObjectTest {
    public static void main(String[] args) {
        StandardRules x = new StandardRules();
        Due.is("place", -1, () -> x.place());
        Due.is("edition that counts", -1, () -> x.told(0));
        Due.is("its rules", 0, () -> x.told(1));
        Due.is("changed rules", 0, () -> x.told(2));
        Due.is("customer", 0, () -> x.told(3));
        Due.is("day", 0, () -> x.told(4));
        for (int i = 0; i < 8; i++) {
            int rule = i;
            Due.is("agreed", -1, () -> x.agreed(rule));
            Due.is("value", Due.TURN, () -> x.value(rule, 0, 0, 0, 0));
            Due.is("example", Due.TURN, () -> x.example(rule, 0));
        }
        Due.is("open", Due.TURN, () -> x.open(0));
        Due.is("table", Due.INDEX, () -> x.table(0, -1));
        Due.is("first change", 0, () -> x.change(9, 7, 9, 9));
        Due.is("first byte", 1, () -> x.sign('[', 1));
        // Nothing is shared between objects.
        StandardRules y = new StandardRules();
        Due.is("other tape", 2, () -> y.sign(0, 2));
        Due.is("other change", 0, () -> y.change(9, 7, 9, 9));
        Due.end();
    }
}
