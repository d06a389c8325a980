/** Promises 5 and 11: changes by rank, and which of them counts. */
public final class ChangeTest {
    public static void main(String[] args) {
        numbersAndLimits();
        checksInOrder();
        ranks();
        standsForTheRule();
        Due.end();
    }

    private static void numbersAndLimits() {
        StandardRules x = new StandardRules();
        for (int i = 0; i < 20; i++) {
            int number = i;
            Due.is("change", number, () -> x.change(number % 10, number % 8, number % 10, number));
        }
        Due.is("a 21st", Due.TURN, () -> x.change(0, 0, 0, 0));
        Due.is("a 21st, no customer", Due.INDEX, () -> x.change(10, 0, 0, 0));
        Due.is("a 21st, no rule", Due.INDEX, () -> x.change(0, -1, 0, 0));
        Due.is("a 21st, wrong rank", Due.TURN, () -> x.change(0, 0, 10, 0));
    }

    private static void checksInOrder() {
        StandardRules x = new StandardRules();
        Due.is("customer -1", Due.INDEX, () -> x.change(-1, 0, 0, 0));
        Due.is("customer 10", Due.INDEX, () -> x.change(10, 0, 99, 0));
        Due.is("rule -1", Due.INDEX, () -> x.change(0, -1, 0, 0));
        Due.is("rule 8", Due.INDEX, () -> x.change(0, 8, 0, 99999));
        Due.is("rank -1", Due.RANGE, () -> x.change(0, 0, -1, 0));
        Due.is("rank 10", Due.RANGE, () -> x.change(0, 0, 10, 0));
        Due.is("value -10000", Due.RANGE, () -> x.change(0, 0, 0, -10000));
        Due.is("value 10000", Due.RANGE, () -> x.change(0, 0, 0, 10000));
        Due.is("agreed -1", Due.INDEX, () -> x.agreed(-1));
        Due.is("agreed 8", Due.INDEX, () -> x.agreed(8));
        Due.is("none was taken", -1, () -> x.agreed(0));
        Due.is("lowest", 0, () -> x.change(0, 0, 0, -9999));
        Due.is("lowest value", -9999, () -> x.value(0, 0, 0, 0, 0));
        Due.is("highest", 1, () -> x.change(0, 0, 9, 9999));
        Due.is("highest value", 9999, () -> x.value(0, 0, 0, 0, 0));
    }

    private static void ranks() {
        StandardRules x = new StandardRules();
        int[][] told = {{4, 0}, {3, 0}, {4, 2}, {0, 2}, {9, 4}, {8, 4}, {9, 6}};
        for (int i = 0; i < told.length; i++) {
            int number = i;
            x.change(2, 5, told[number][0], 100 + number);
            x.order(2, 0);
            Due.is("agreed", told[number][1], () -> x.agreed(5));
            Due.is("value", 100 + told[number][1], () -> x.value(5, 0, 0, 0, 0));
            Due.is("another rule", -1, () -> x.agreed(4));
            x.order(3, 0);
            Due.is("another customer", -1, () -> x.agreed(5));
        }
    }

    private static void standsForTheRule() {
        StandardRules x = Due.having("[5]a=1/w;b=a+1;c=ka;d=b*c;e=2;");
        x.order(1, 0);
        x.change(1, 0, 0, 0);
        Due.is("changed though open", 0, () -> x.value(0, 0, 0, 0, 0));
        Due.is("used in b", 1, () -> x.value(1, 0, 0, 0, 0));
        Due.is("used as a place", 5, () -> x.value(2, 0, 0, 0, 0));
        Due.is("used at second hand", 5, () -> x.value(3, 0, 0, 0, 0));
        Due.is("no open case", -1, () -> x.example(3, 5));
        x.change(1, 0, 0, -1);
        Due.is("outside", Due.MEANING, () -> x.value(3, 0, 0, 0, 0));
        Due.is("in c", 2, () -> x.open(0));
        x.change(1, 6, 0, 77);
        Due.is("a rule the text has not", 77, () -> x.value(6, 0, 0, 0, 0));
        Due.is("range holds for it too", Due.RANGE, () -> x.value(6, 0, 0, 0, -1));
        Due.is("an example of it", -1, () -> x.example(6, 5));
        Due.is("range of its example", Due.RANGE, () -> x.example(6, 6));
        x.order(2, 0);
        Due.is("another customer's", Due.TURN, () -> x.value(6, 0, 0, 0, 0));
        Due.is("another customer's a", Due.MEANING, () -> x.value(0, 0, 0, 0, 0));
        StandardRules y = new StandardRules();
        y.change(0, 7, 0, 8);
        Due.is("without an edition", 8, () -> y.value(7, 0, 0, 0, 0));
        Due.is("example without an edition", -1, () -> y.example(7, 5));
    }
}
