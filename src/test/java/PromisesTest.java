import java.util.function.IntUnaryOperator;

/** Promises 1 to 12: each sentence that names a boundary, by its boundary cases. */
public final class PromisesTest {
    private static final int[] FAR_OUT = {Integer.MIN_VALUE, -10000, 10001, Integer.MAX_VALUE};

    public static void main(String[] args) {
        Due.sentence("No editions, no changes, an empty tape.", PromisesTest::newObject);
        Due.sentence("n bytes (1 .. 8", PromisesTest::oneToEightBytes);
        Due.sentence("Range: n;", PromisesTest::refusedN);
        Due.sentence("the lowest n, the highest of these first)", PromisesTest::lowestBytesHighestFirst);
        Due.sentence("more on the tape: how many.", PromisesTest::howManyOnTheTape);
        Due.sentence("meaning: there would be more than 200.", PromisesTest::moreThanTwoHundred);
        Due.sentence("The tape (used up, also when this throws its meaning)", PromisesTest::tapeUsedUp);
        Due.sentence("becomes an edition from a day on: its number.", PromisesTest::numberOfAnEdition);
        Due.sentence("Turn: there are 6; range: the day; meaning: it is wrong.", PromisesTest::refusedEditions);
        Due.sentence("Where the latest text was wrong", PromisesTest::whereTheLatestWasWrong);
        Due.sentence("-1 when it was right, or there was none.", PromisesTest::rightOrNone);
        Due.sentence("A change: its number.", PromisesTest::numberOfAChange);
        Due.sentence("Index: no such customer or rule (0 .. 7: a .. h); turn: there are 20; range: the rank, the value.",
                PromisesTest::refusedChanges);
        Due.sentence("The order whose cases come next: a customer, a day", PromisesTest::casesComeNext);
        Due.sentence("without one it is customer 0, day 0.", PromisesTest::withoutAnOrder);
        Due.sentence("Index: the customer; range: the day.", PromisesTest::refusedOrders);
        Due.sentence("A rule's value for a case of the order.", PromisesTest::caseOfTheOrder);
        Due.sentence("Index: no such rule (0 .. 7)", PromisesTest::noSuchRuleOfValue);
        Due.sentence("turn: no edition counts on its day, or that has no such rule, and there is no change of it",
                PromisesTest::outOfTurnValue);
        Due.sentence("range: the sizes; meaning: it is open.", PromisesTest::refusedSizesAndOpen);
        Due.sentence("Of the latest value() that was open", PromisesTest::latestOpen);
        Due.sentence("what 0 the rule (0 .. 7) in which it was so", PromisesTest::ruleThatIsOpen);
        Due.sentence("1 why (0 divided by 0, 1 outside the table).", PromisesTest::whyOpen);
        Due.sentence("Index: no such what; turn: there was none.", PromisesTest::refusedOpen);
        Due.sentence("The first case, all sizes from 0 to most (0 .. 5)", PromisesTest::sizesUpToMost);
        Due.sentence("w first, then t, l, n (n goes up soonest)", PromisesTest::orderOfCases);
        Due.sentence("its sizes as digits w, t, l, n", PromisesTest::sizesAsDigits);
        Due.sentence("-1 when there is none.", PromisesTest::noOpenCase);
        Due.sentence("Index, turn: as of value(); range: most.", PromisesTest::refusedExamples);
        Due.sentence("Of the order what 0 the edition that counts (-1)", PromisesTest::toldEdition);
        Due.sentence("1 how many rules that has", PromisesTest::toldRules);
        Due.sentence("2 how many rules are changed for its customer", PromisesTest::toldChangedRules);
        Due.sentence("3 its customer, 4 its day.", PromisesTest::toldCustomerAndDay);
        Due.sentence("Index: no such what.", PromisesTest::refusedTold);
        Due.sentence("The change that counts for the order's customer and a rule (-1).", PromisesTest::agreedChange);
        Due.sentence("Index: no such rule.", PromisesTest::refusedAgreed);
        Due.sentence("Number i (0 first) of an edition's table; i -1: how many.", PromisesTest::tableNumbers);
        Due.sentence("Index: no such edition or number.", PromisesTest::refusedTable);
        Due.end();
    }

    private static void newObject() {
        StandardRules x = new StandardRules();
        for (int i = 0; i < 6; i++) {
            int edition = i;
            Due.is("edition " + i, Due.INDEX, () -> x.table(edition, -1));
        }
        Due.runs("the last day", () -> x.order(0, 9999));
        Due.is("no edition counts", -1, () -> x.told(0));
        for (int i = 0; i < 10; i++) {
            int customer = i;
            x.order(customer, 0);
            Due.is("changed rules of customer " + i, 0, () -> x.told(2));
        }
        Due.is("an empty tape is wrong", Due.MEANING, () -> x.edition(0));
        Due.is("at its length", 0, () -> x.place());
        Due.is("the first byte", 1, () -> x.sign('[', 1));
        Due.is("the first change", 0, () -> x.change(0, 0, 0, 0));
        // What one object holds is nothing to another.
        StandardRules y = new StandardRules();
        Due.is("another's first byte", 1, () -> y.sign('[', 1));
        Due.is("another's first change", 0, () -> y.change(0, 0, 0, 0));
    }

    private static void oneToEightBytes() {
        for (int i = 1; i <= 8; i++) {
            int n = i;
            StandardRules x = new StandardRules();
            Due.is("n " + n, n, () -> x.sign(0, n));
        }
    }

    private static void refusedN() {
        StandardRules x = new StandardRules();
        refusesAll("n", Due.RANGE, n -> x.sign(' ', n), -1, 0, 9, 10);
        Due.is("n 1", 1, () -> x.sign(' ', 1));
        refusesAll("n behind it", Due.RANGE, n -> x.sign(' ', n), -1, 0, 9, 10);
    }

    private static void lowestBytesHighestFirst() {
        // The text "[5]a=12;" ends in each of these longs, behind bytes that are not asked for.
        StandardRules x = new StandardRules();
        x.sign(0xFFFFFFFFFFFFFF5BL, 1);
        x.sign(0x777777777777355DL, 2);
        x.sign(0x8000000000613D31L, 3);
        x.sign(0x2020202020200032L, 1);
        x.sign(0x3BL, 1);
        Due.is("edition", 0, () -> x.edition(0));
        Due.is("table", 5, () -> x.table(0, 0));
        Due.is("value", 12, () -> x.value(0, 0, 0, 0, 0));
        for (int i = 1; i <= 8; i++) {
            int n = i;
            StandardRules y = new StandardRules();
            // Byte 1 of the n is '[', the others are digits, from the second on.
            y.sign(0x5B31323334353637L >>> 8 * (8 - n), n);
            Due.is("wrong", Due.MEANING, () -> y.edition(0));
            Due.is("n " + n, Math.min(n, 5), () -> y.place());
        }
        // A byte above 127 is no sign of a text, whatever its lower bits are.
        Due.wrong("\u00db1]a=1;", 0);
    }

    private static void howManyOnTheTape() {
        StandardRules x = new StandardRules();
        int due = 0;
        for (int i = 1; i <= 8; i++) {
            int n = i;
            due += n;
            Due.is("after " + n + " more", due, () -> x.sign(0, n));
        }
        Due.is("used up", Due.MEANING, () -> x.edition(0));
        Due.is("counted anew", 3, () -> x.sign(0, 3));
    }

    private static void moreThanTwoHundred() {
        StandardRules x = new StandardRules();
        Due.write(x, "[1]a=1;" + " ".repeat(185));
        Due.is("200 at once", 200, () -> x.sign(0x2020202020202020L, 8));
        for (int i = 1; i <= 8; i++) {
            int n = i;
            Due.is("more than 200", Due.MEANING, () -> x.sign('!', n));
        }
        Due.is("nothing came on the tape", 0, () -> x.edition(0));
        StandardRules y = new StandardRules();
        Due.write(y, "[1]a=1;" + " ".repeat(186));
        Due.is("201", Due.MEANING, () -> y.sign(0x2020202020202021L, 8));
        Due.is("200", 200, () -> y.sign(0x20202020202020L, 7));
        Due.is("nothing wrong on the tape", 0, () -> y.edition(0));
    }

    private static void tapeUsedUp() {
        StandardRules x = new StandardRules();
        Due.write(x, "[1]a=1;");
        Due.is("right", 0, () -> x.edition(0));
        Due.is("used up by it", 1, () -> x.sign('[', 1));
        Due.is("wrong", Due.MEANING, () -> x.edition(0));
        Due.is("used up too", 1, () -> x.sign('[', 1));
        Due.is("day -1", Due.RANGE, () -> x.edition(-1));
        Due.is("kept", 2, () -> x.sign('2', 1));
        Due.is("day 10000", Due.RANGE, () -> x.edition(10000));
        Due.is("kept", 3, () -> x.sign(']', 1));
        Due.write(x, "a=5;");
        Due.is("whole", 1, () -> x.edition(0));
        Due.is("its table", 2, () -> x.table(1, 0));
        StandardRules y = full();
        Due.is("before", 1, () -> y.sign('[', 1));
        Due.is("a seventh", Due.TURN, () -> y.edition(0));
        Due.is("kept", 2, () -> y.sign('[', 1));
    }

    private static void numberOfAnEdition() {
        StandardRules x = new StandardRules();
        int[] days = {9999, 0, 5, 5, 4, 9999};
        for (int i = 0; i < 6; i++) {
            int number = i;
            Due.write(x, "[1]a=1;");
            Due.is("edition", number, () -> x.edition(days[number]));
        }
        x.order(0, 0);
        Due.is("day 0", 1, () -> x.told(0));
        x.order(0, 9999);
        Due.is("day 9999", 5, () -> x.told(0));
    }

    private static void refusedEditions() {
        StandardRules x = full();
        Due.write(x, "[1]a=1;");
        Due.is("there are 6", Due.TURN, () -> x.edition(5));
        StandardRules y = new StandardRules();
        Due.write(y, "[1]a=1;");
        refusesAll("day", Due.RANGE, y::edition, -1, 10000);
        Due.is("day 0", 0, () -> y.edition(0));
        Due.write(y, "[1]a=1!");
        Due.is("wrong", Due.MEANING, () -> y.edition(0));
    }

    private static void whereTheLatestWasWrong() {
        StandardRules x = new StandardRules();
        String[] texts = {"!", "[!", "[1]a=1;!", "[1]"};
        int[] places = {0, 1, 7, 3};
        for (int i = 0; i < texts.length; i++) {
            int place = places[i];
            Due.write(x, texts[i]);
            Due.is("wrong", Due.MEANING, () -> x.edition(0));
            Due.is("place", place, () -> x.place());
            Due.is("told again", place, () -> x.place());
        }
        Due.write(x, "[1]a=1;");
        Due.is("not by a text on the tape", 3, () -> x.place());
        Due.is("day -1", Due.RANGE, () -> x.edition(-1));
        Due.is("not by a refused day", 3, () -> x.place());
    }

    private static void rightOrNone() {
        StandardRules x = new StandardRules();
        Due.is("none", -1, () -> x.place());
        Due.write(x, "[1]a=1!");
        Due.is("none yet", -1, () -> x.place());
        Due.is("day -1", Due.RANGE, () -> x.edition(-1));
        Due.is("still none", -1, () -> x.place());
        Due.is("wrong", Due.MEANING, () -> x.edition(0));
        Due.is("wrong at", 6, () -> x.place());
        Due.write(x, "[1]a=1;");
        Due.is("right", 0, () -> x.edition(0));
        Due.is("it was right", -1, () -> x.place());
    }

    private static void numberOfAChange() {
        StandardRules x = new StandardRules();
        int[][] edges = {{0, 0, 0, -9999}, {9, 7, 9, 9999}, {0, 7, 0, 0}, {9, 0, 9, 0}, {0, 0, 0, -9999}};
        for (int i = 0; i < edges.length; i++) {
            int[] e = edges[i];
            Due.is("change", i, () -> x.change(e[0], e[1], e[2], e[3]));
        }
    }

    private static void refusedChanges() {
        StandardRules x = new StandardRules();
        refusesAll("customer", Due.INDEX, i -> x.change(i, 0, 0, 0), -1, 10);
        refusesAll("rule", Due.INDEX, i -> x.change(0, i, 0, 0), -1, 8);
        refusesAll("rank", Due.RANGE, i -> x.change(0, 0, i, 0), -1, 10);
        refusesAll("value", Due.RANGE, i -> x.change(0, 0, 0, i), -10000, 10000);
        for (int i = 0; i < 20; i++) {
            int number = i;
            Due.is("change", number, () -> x.change(0, 0, 0, 0));
        }
        Due.is("there are 20", Due.TURN, () -> x.change(0, 0, 0, 0));
        Due.is("nor for another customer", Due.TURN, () -> x.change(9, 7, 9, 1));
    }

    private static void casesComeNext() {
        StandardRules x = Due.having("[1]a=1;");
        Due.write(x, "[1]a=2;");
        x.edition(10);
        x.change(3, 0, 0, 3);
        int[][] due = {{0, 9, 1}, {0, 10, 2}, {3, 0, 3}, {3, 9999, 3}, {9, 9999, 2}, {9, 0, 1}};
        for (int[] row : due) {
            Due.runs("order", () -> x.order(row[0], row[1]));
            Due.is("value", row[2], () -> x.value(0, 0, 0, 0, 0));
            Due.is("the next value", row[2], () -> x.value(0, 1, 1, 1, 1));
        }
    }

    private static void withoutAnOrder() {
        StandardRules x = new StandardRules();
        Due.is("customer", 0, () -> x.told(3));
        Due.is("day", 0, () -> x.told(4));
        x.change(1, 0, 0, 7);
        x.change(0, 1, 0, 8);
        Due.is("customer 1's", -1, () -> x.agreed(0));
        Due.is("customer 0's", 1, () -> x.agreed(1));
        Due.write(x, "[1]c=5;");
        x.edition(1);
        Due.is("from day 1 on", Due.TURN, () -> x.value(2, 0, 0, 0, 0));
        Due.write(x, "[1]c=6;");
        x.edition(0);
        Due.is("from day 0 on", 6, () -> x.value(2, 0, 0, 0, 0));
    }

    private static void refusedOrders() {
        StandardRules x = new StandardRules();
        refusesAll("customer", Due.INDEX, i -> order(x, i, 0), -1, 10);
        refusesAll("day", Due.RANGE, i -> order(x, 0, i), -1, 10000);
        Due.is("edges", 0, () -> order(x, 9, 9999));
        Due.is("edges", 0, () -> order(x, 0, 0));
    }

    private static void caseOfTheOrder() {
        StandardRules x = Due.having("[1]a=w*1000+t*100+l*10+n;b=1;c=a-b;");
        Due.write(x, "[1]a=n*1000+l*100+t*10+w;");
        x.edition(5);
        x.change(2, 1, 0, 2);
        Due.is("of the first edition", 1233, () -> x.value(2, 1, 2, 3, 4));
        x.order(2, 4);
        Due.is("for a customer with a change", 1232, () -> x.value(2, 1, 2, 3, 4));
        Due.is("sizes at their highest", 11108889, () -> x.value(0, 9999, 9999, 9999, 9999));
        x.order(2, 5);
        Due.is("of the second edition", 4321, () -> x.value(0, 1, 2, 3, 4));
        Due.is("sizes at their lowest", 0, () -> x.value(0, 0, 0, 0, 0));
    }

    private static void noSuchRuleOfValue() {
        StandardRules x = Due.having("[1]a=1;h=8;");
        refusesAll("rule", Due.INDEX, i -> x.value(i, 0, 0, 0, 0), -1, 8);
        Due.is("rule 0", 1, () -> x.value(0, 0, 0, 0, 0));
        Due.is("rule 7", 8, () -> x.value(7, 0, 0, 0, 0));
    }

    private static void outOfTurnValue() {
        StandardRules x = new StandardRules();
        Due.is("no edition", Due.TURN, () -> x.value(0, 0, 0, 0, 0));
        Due.write(x, "[1]a=1;");
        x.edition(1);
        Due.is("none on day 0", Due.TURN, () -> x.value(0, 0, 0, 0, 0));
        x.order(0, 1);
        Due.is("one on day 1", 1, () -> x.value(0, 0, 0, 0, 0));
        Due.is("no rule b", Due.TURN, () -> x.value(1, 0, 0, 0, 0));
        Due.write(x, "[1]b=2;");
        x.edition(2);
        Due.is("still no rule b", Due.TURN, () -> x.value(1, 0, 0, 0, 0));
        x.order(0, 2);
        Due.is("rule b", 2, () -> x.value(1, 0, 0, 0, 0));
        Due.is("no rule a any more", Due.TURN, () -> x.value(0, 0, 0, 0, 0));
        x.change(1, 0, 0, 5);
        Due.is("another customer's change", Due.TURN, () -> x.value(0, 0, 0, 0, 0));
        x.change(0, 0, 0, 5);
        Due.is("a change of it", 5, () -> x.value(0, 0, 0, 0, 0));
        x.order(0, 0);
        Due.is("a change where no edition counts", 5, () -> x.value(0, 0, 0, 0, 0));
        Due.is("no change of b", Due.TURN, () -> x.value(1, 0, 0, 0, 0));
    }

    private static void refusedSizesAndOpen() {
        StandardRules x = Due.having("[1]a=6/w;");
        refusesAll("w", Due.RANGE, i -> x.value(0, i, 0, 0, 0), -1, 10000);
        refusesAll("t", Due.RANGE, i -> x.value(0, 0, i, 0, 0), -1, 10000);
        refusesAll("l", Due.RANGE, i -> x.value(0, 0, 0, i, 0), -1, 10000);
        refusesAll("n", Due.RANGE, i -> x.value(0, 0, 0, 0, i), -1, 10000);
        Due.is("lowest", Due.MEANING, () -> x.value(0, 0, 0, 0, 0));
        Due.is("highest", 0, () -> x.value(0, 9999, 9999, 9999, 9999));
        // A change is no reason to take a size that is none.
        x.change(0, 0, 0, 5);
        refusesAll("n of a changed rule", Due.RANGE, i -> x.value(0, 0, 0, 0, i), -1, 10000);
    }

    private static void latestOpen() {
        StandardRules x = Due.having("[1]a=1/w;b=kt;");
        opens(x, 0, 0, 0);
        Due.is("not open", 1, () -> x.value(0, 1, 0, 0, 0));
        tellsOpen(x, 0, 0);
        Due.is("refused", Due.RANGE, () -> x.value(1, 0, 10000, 0, 0));
        tellsOpen(x, 0, 0);
        Due.is("an example is no value()", 100, () -> x.example(1, 5));
        tellsOpen(x, 0, 0);
        opens(x, 1, 1, 1);
        tellsOpen(x, 1, 1);
        x.order(5, 500);
        x.change(5, 0, 0, 0);
        Due.is("wrong text", Due.MEANING, () -> x.edition(0));
        tellsOpen(x, 1, 1);
        x.order(0, 0);
        opens(x, 0, 0, 0);
    }

    private static void ruleThatIsOpen() {
        Due.opens("[1]a=1/0;", 0, 0, 0);
        Due.opens("[1]h=1/0;", 7, 7, 0);
        Due.opens("[1]h=1/0;a=h;", 0, 7, 0);
        Due.opens("[1]a=1/0;h=a;", 7, 0, 0);
        Due.opens("[1]a=1;b=k1;c=b;d=a+c;", 3, 1, 1);
    }

    private static void whyOpen() {
        Due.opens("[1]a=1/0;", 0, 0, 0);
        Due.opens("[1]a=k1;", 0, 0, 1);
        Due.opens("[0]a=1/k0;", 0, 0, 0);
        Due.opens("[1]a=1/k1;", 0, 0, 1);
    }

    private static void refusedOpen() {
        StandardRules x = Due.having("[1]a=1/w;");
        refusesAll("what, none yet", Due.INDEX, x::open, -1, 2);
        Due.is("none of a rule", Due.TURN, () -> x.open(0));
        Due.is("none of a reason", Due.TURN, () -> x.open(1));
        Due.is("not open", 1, () -> x.value(0, 1, 0, 0, 0));
        Due.is("an example", 0, () -> x.example(0, 5));
        Due.is("still none", Due.TURN, () -> x.open(0));
        opens(x, 0, 0, 0);
        refusesAll("what", Due.INDEX, x::open, -1, 2);
    }

    private static void sizesUpToMost() {
        for (int most = 0; most <= 5; most++) {
            // Open where all four sizes are just most, and where they are one more.
            Due.example("[1]a=w+t+l+n-" + 4 * most + ";b=1/a;", 1, most, 1111 * most);
            Due.example("[1]a=w-" + (most + 1) + ";b=1/a;", 1, most, -1);
            Due.example("[1]a=n-" + (most + 1) + ";b=1/a;", 1, most, -1);
        }
        StandardRules x = Due.having("[1]a=w-6;b=1/a;");
        Due.is("6 is not looked at", -1, () -> x.example(1, 5));
        Due.is("though open", Due.MEANING, () -> x.value(1, 6, 0, 0, 0));
        refusesAll("most", Due.RANGE, i -> x.example(0, i), -1, 6);
    }

    private static void orderOfCases() {
        String sum = "a=w+t+l+n;b=ka;";
        Due.example("[1]" + sum, 1, 5, 1);
        Due.example("[1,1,1,1,1]" + sum, 1, 5, 5);
        Due.example("[1,1,1,1,1,1]" + sum, 1, 5, 15);
        Due.example("[1,1,1]" + sum, 1, 1, 111);
        Due.example("[1,1,1,1,1]" + sum, 1, 2, 122);
        // Of two sizes that would do, the one that goes up sooner.
        Due.example("[1]a=w+t;b=ka;", 1, 5, 100);
        Due.example("[1]a=t+l;b=ka;", 1, 5, 10);
        Due.example("[1]a=l+n;b=ka;", 1, 5, 1);
    }

    private static void sizesAsDigits() {
        String digits = "[1]a=w*1000+t*100+l*10+n;b=a-";
        for (int due : new int[] {0, 1, 5, 10, 50, 100, 500, 1000, 1234, 4321, 5000, 5050, 5555}) {
            Due.example(digits + due + ";c=1/b;", 2, 5, due);
        }
    }

    private static void noOpenCase() {
        Due.example("[1]a=1;", 0, 5, -1);
        Due.example("[1]a=w+1;b=1/a;", 1, 5, -1);
        Due.example("[1,1,1,1,1,1]a=kw+kt+kl+kn;", 0, 5, -1);
        Due.example("[1,1,1,1,1]a=kw;", 0, 4, -1);
        Due.example("[1,1,1,1,1]a=kw;", 0, 5, 5000);
        Due.example("[1]a=1/w;b=2;", 1, 5, -1);
        Due.example("[1]a=1/w;b=a;", 1, 5, 0);
        StandardRules x = Due.having("[1]a=1/w;b=a;");
        x.change(0, 0, 0, 1);
        Due.is("changed", -1, () -> x.example(0, 5));
        Due.is("uses a changed rule", -1, () -> x.example(1, 5));
        x.order(1, 0);
        Due.is("for another customer", 0, () -> x.example(1, 5));
    }

    private static void refusedExamples() {
        StandardRules x = new StandardRules();
        refusesAll("rule", Due.INDEX, i -> x.example(i, 0), -1, 8);
        Due.is("no edition", Due.TURN, () -> x.example(0, 0));
        Due.write(x, "[1]a=1/1;");
        x.edition(1);
        Due.is("none on day 0", Due.TURN, () -> x.example(0, 0));
        x.order(0, 1);
        Due.is("one on day 1", -1, () -> x.example(0, 0));
        Due.is("no rule b", Due.TURN, () -> x.example(1, 0));
        x.change(0, 1, 0, 5);
        Due.is("a change of it", -1, () -> x.example(1, 5));
        x.order(0, 0);
        Due.is("a change without an edition", -1, () -> x.example(1, 0));
        refusesAll("most of a changed rule", Due.RANGE, i -> x.example(1, i), -1, 6);
        x.order(1, 1);
        Due.is("not another customer's", Due.TURN, () -> x.example(1, 0));
        refusesAll("most", Due.RANGE, i -> x.example(0, i), -1, 6);
    }

    private static void toldEdition() {
        StandardRules x = new StandardRules();
        Due.is("none", -1, () -> x.told(0));
        Due.write(x, "[1]a=1;");
        x.edition(1);
        Due.is("not yet", -1, () -> x.told(0));
        x.order(0, 1);
        Due.is("now", 0, () -> x.told(0));
        x.order(0, 0);
        Due.is("not any more", -1, () -> x.told(0));
        StandardRules y = full();
        Due.is("the last", 5, () -> y.told(0));
    }

    private static void toldRules() {
        StandardRules x = new StandardRules();
        Due.is("of none", 0, () -> x.told(1));
        Due.write(x, "[1]h=1;");
        x.edition(0);
        Due.is("one", 1, () -> x.told(1));
        Due.write(x, "[1]a=1;b=1;c=1;d=1;e=1;f=1;g=1;h=1;");
        x.edition(0);
        Due.is("eight", 8, () -> x.told(1));
        // A wrong text's rules are not told, nor are changed ones that the text has not.
        Due.write(x, "[1]a=1;b=1;!");
        Due.is("wrong", Due.MEANING, () -> x.edition(0));
        Due.is("eight still", 8, () -> x.told(1));
        Due.write(x, "[1]c=1;");
        x.edition(0);
        x.change(0, 0, 0, 0);
        Due.is("one again", 1, () -> x.told(1));
    }

    private static void toldChangedRules() {
        StandardRules x = new StandardRules();
        Due.is("none", 0, () -> x.told(2));
        for (int i = 0; i < 8; i++) {
            int rule = i;
            x.change(0, rule, 3, 0);
            Due.is("one more", rule + 1, () -> x.told(2));
            x.change(0, rule, rule, 1);
            Due.is("the same rule again", rule + 1, () -> x.told(2));
        }
        x.change(9, 0, 0, 0);
        Due.is("another customer's", 8, () -> x.told(2));
        x.order(9, 0);
        Due.is("his", 1, () -> x.told(2));
    }

    private static void toldCustomerAndDay() {
        StandardRules x = new StandardRules();
        int[][] orders = {{9, 0}, {0, 9999}, {9, 9999}, {4, 7}, {0, 0}};
        for (int[] order : orders) {
            x.order(order[0], order[1]);
            Due.is("customer", order[0], () -> x.told(3));
            Due.is("day", order[1], () -> x.told(4));
        }
    }

    private static void refusedTold() {
        StandardRules x = new StandardRules();
        refusesAll("what", Due.INDEX, x::told, -1, 5);
    }

    private static void agreedChange() {
        StandardRules x = new StandardRules();
        Due.is("none of a", -1, () -> x.agreed(0));
        Due.is("none of h", -1, () -> x.agreed(7));
        x.change(0, 7, 5, 1);
        x.change(0, 7, 4, 2);
        x.change(9, 7, 9, 3);
        Due.is("customer 0", 0, () -> x.agreed(7));
        Due.is("still none of a", -1, () -> x.agreed(0));
        x.order(9, 0);
        Due.is("customer 9", 2, () -> x.agreed(7));
        x.order(8, 0);
        Due.is("customer 8", -1, () -> x.agreed(7));
    }

    private static void refusedAgreed() {
        StandardRules x = new StandardRules();
        refusesAll("rule", Due.INDEX, x::agreed, -1, 8);
    }

    private static void tableNumbers() {
        StandardRules x = Due.having("[9999,0,1,10,100,1000,9,90]a=1;");
        int[] numbers = {9999, 0, 1, 10, 100, 1000, 9, 90};
        Due.is("how many", 8, () -> x.table(0, -1));
        for (int i = 0; i < numbers.length; i++) {
            int at = i;
            Due.is("number " + i, numbers[at], () -> x.table(0, at));
        }
        Due.write(x, "[7]a=1;");
        x.edition(9999);
        Due.is("one", 1, () -> x.table(1, -1));
        Due.is("of an edition that does not count", 7, () -> x.table(1, 0));
    }

    private static void refusedTable() {
        StandardRules x = Due.having("[5,6]a=1;");
        refusesAll("number", Due.INDEX, i -> x.table(0, i), -2, 2, 3, 8);
        refusesAll("edition", Due.INDEX, i -> x.table(i, -1), -1, 1, 6);
        refusesAll("number of no edition", Due.INDEX, i -> x.table(1, i), -2, -1, 0);
        // A wrong text makes no edition, and lends its numbers to none.
        Due.write(x, "[1,2,3]!");
        Due.is("wrong", Due.MEANING, () -> x.edition(0));
        Due.is("no edition of it", Due.INDEX, () -> x.table(1, 0));
        Due.write(x, "[7]a=1;");
        x.edition(0);
        refusesAll("number of the next", Due.INDEX, i -> x.table(1, i), -2, 1, 2);
        StandardRules y = full();
        refusesAll("edition of 6", Due.INDEX, i -> y.table(i, -1), -1, 6, 7);
    }

    private static StandardRules full() {
        StandardRules x = new StandardRules();
        for (int i = 0; i < 6; i++) {
            Due.write(x, "[1]a=1;");
            x.edition(0);
        }
        return x;
    }

    private static void opens(StandardRules x, int rule, int where, int why) {
        Due.is("open", Due.MEANING, () -> x.value(rule, 0, 1, 0, 0));
        tellsOpen(x, where, why);
    }

    private static void tellsOpen(StandardRules x, int where, int why) {
        Due.is("rule that is open", where, () -> x.open(0));
        Due.is("why it is open", why, () -> x.open(1));
    }

    private static int order(StandardRules x, int customer, int day) {
        x.order(customer, day);
        return 0;
    }

    /** Refuses the arguments told, and those far out. */
    private static void refusesAll(String what, String want, IntUnaryOperator call, int... wrong) {
        for (int argument : wrong) {
            Due.is(what + " " + argument, want, () -> call.applyAsInt(argument));
        }
        for (int argument : FAR_OUT) {
            Due.is(what + " " + argument, want, () -> call.applyAsInt(argument));
        }
    }
}
