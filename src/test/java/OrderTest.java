/** Promises 6, 10 and 12: the order, what is told of it, tables, and which edition counts. */
public final class OrderTest {
    public static void main(String[] args) {
        refusals();
        countingEdition();
        changedRules();
        tables();
        Due.end();
    }

    private static void refusals() {
        StandardRules x = new StandardRules();
        Due.runs("highest", () -> x.order(9, 9999));
        Due.refuses("customer -1", Due.INDEX, () -> x.order(-1, 0));
        Due.refuses("customer 10", Due.INDEX, () -> x.order(10, 10000));
        Due.refuses("day -1", Due.RANGE, () -> x.order(0, -1));
        Due.refuses("day 10000", Due.RANGE, () -> x.order(0, 10000));
        Due.is("customer kept", 9, () -> x.told(3));
        Due.is("day kept", 9999, () -> x.told(4));
        Due.is("told -1", Due.INDEX, () -> x.told(-1));
        Due.is("told 5", Due.INDEX, () -> x.told(5));
        Due.runs("lowest", () -> x.order(0, 0));
        Due.is("customer", 0, () -> x.told(3));
        Due.is("day", 0, () -> x.told(4));
    }

    private static void countingEdition() {
        StandardRules x = new StandardRules();
        int[] days = {10, 30, 20, 30, 0, 9999};
        for (int i = 0; i < days.length; i++) {
            Due.write(x, "[1]a=" + i + ";" + "bcdefgh".substring(0, i).replaceAll("(.)", "$1=1;"));
            x.edition(days[i]);
            if (i == 3) {
                Due.is("none on day 0 yet", -1, () -> x.told(0));
                Due.is("no rules", 0, () -> x.told(1));
                Due.is("no value", Due.TURN, () -> x.value(0, 0, 0, 0, 0));
            }
        }
        int[][] counts = {{0, 4}, {9, 4}, {10, 0}, {19, 0}, {20, 2}, {29, 2}, {30, 3}, {9998, 3}, {9999, 5}};
        for (int[] row : counts) {
            x.order(0, row[0]);
            Due.is("edition on day " + row[0], row[1], () -> x.told(0));
            Due.is("its rules", row[1] + 1, () -> x.told(1));
            Due.is("its value", row[1], () -> x.value(0, 0, 0, 0, 0));
        }
        x.order(0, 30);
        Due.is("rule d stands in edition 3", 1, () -> x.value(3, 0, 0, 0, 0));
        Due.is("rule e does not", Due.TURN, () -> x.value(4, 0, 0, 0, 0));
        Due.is("nor has it an example", Due.TURN, () -> x.example(4, 9));
    }

    private static void changedRules() {
        StandardRules x = new StandardRules();
        x.order(5, 0);
        x.change(5, 1, 0, 1);
        x.change(5, 1, 3, 1);
        x.change(4, 2, 0, 1);
        Due.is("one rule", 1, () -> x.told(2));
        x.change(5, 7, 0, 1);
        Due.is("two rules", 2, () -> x.told(2));
        x.order(6, 0);
        Due.is("none", 0, () -> x.told(2));
    }

    private static void tables() {
        StandardRules x = Due.having("[9999,0,42,3,4,5,6,7]a=1;");
        Due.is("eight", 8, () -> x.table(0, -1));
        int[] numbers = {9999, 0, 42, 3, 4, 5, 6, 7};
        for (int i = 0; i < numbers.length; i++) {
            int at = i;
            Due.is("number", numbers[at], () -> x.table(0, at));
        }
        Due.is("number 8", Due.INDEX, () -> x.table(0, 8));
        Due.is("number -2", Due.INDEX, () -> x.table(0, -2));
        Due.is("edition 1", Due.INDEX, () -> x.table(1, -1));
        Due.is("edition -1", Due.INDEX, () -> x.table(-1, -1));
        Due.is("edition 6", Due.INDEX, () -> x.table(6, 0));
        Due.write(x, "[8]a=1;");
        x.edition(9999);
        Due.is("one", 1, () -> x.table(1, -1));
        Due.is("its number", 8, () -> x.table(1, 0));
        Due.is("no other", Due.INDEX, () -> x.table(1, 1));
        Due.is("the first stays", 8, () -> x.table(0, -1));
    }
}
