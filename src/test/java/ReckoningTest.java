/** Terms: each sentence on editions, cases, values and changes, by its boundary cases. */
public final class ReckoningTest {
    private static final int LOWEST_INT = Integer.MIN_VALUE;
    /** Rule a is the lowest int, rule b is -1. */
    private static final String LOWEST = "[1]a=2048*1024*1024;b=0-1;";

    public static void main(String[] args) {
        Due.sentence("all from left to right.", ReckoningTest::leftToRight);
        Due.sentence("the table's number at that place (0 the first).", ReckoningTest::places);
        Due.sentence("EDITIONS 0, 1, .. (at most 6)", ReckoningTest::sixEditions);
        Due.sentence("hold from a day (0 .. 9,999) on", ReckoningTest::fromADayOn);
        Due.sentence("for a day the one of the latest day up to it counts", ReckoningTest::latestDay);
        Due.sentence("of the same day the one told last.", ReckoningTest::sameDay);
        Due.sentence("A CASE has sizes w, t, l, n (0 .. 9,999 each).", ReckoningTest::sizes);
        Due.sentence("A rule's VALUE for it goes by ints", ReckoningTest::wrapAround);
        Due.sentence("(quotients towards 0)", ReckoningTest::quotients);
        Due.sentence("it is OPEN when it would divide by 0", ReckoningTest::dividedByZero);
        Due.sentence("or look outside the table", ReckoningTest::outsideTheTable);
        Due.sentence("wherever in it this comes first", ReckoningTest::comesFirst);
        Due.sentence("also within rules that it uses.", ReckoningTest::withinUsedRules);
        Due.sentence("CHANGES 0, 1, .. (at most 20)", ReckoningTest::twentyChanges);
        Due.sentence("are agreed for a CUSTOMER (0 .. 9), a rule's letter", ReckoningTest::forACustomer);
        Due.sentence("a RANK (0 .. 9)", ReckoningTest::ranks);
        Due.sentence("the rule's value is that number (-9,999 .. 9,999) for the customer", ReckoningTest::numbers);
        Due.sentence("in all cases, open or not", ReckoningTest::allCases);
        Due.sentence("also where other rules use it", ReckoningTest::whereOthersUseIt);
        Due.sentence("of several the one of the highest rank", ReckoningTest::highestRank);
        Due.sentence("of the same the one told last.", ReckoningTest::sameRank);
        Due.end();
    }

    private static void leftToRight() {
        Due.value("[1]a=7/2*2;", 0, 6);
        Due.value("[1]a=2*7/2;", 0, 7);
        Due.value("[1]a=100/5/2;", 0, 10);
        Due.value("[1]a=10-3-2;", 0, 5);
        Due.value("[1]a=10-3+2;", 0, 9);
        Due.value("[1]a=10-2*3/4+5;", 0, 14);
        Due.value("[1]a=1-2+3-4+5;", 0, 3);
        Due.value("[1]a=1*2*3-1*2*2+8/2/2-9/3*2+7*1*1;", 0, 5);
        // What wraps around on the way shows which way it went.
        Due.value("[1]a=9999*9999*9999;b=a/9999/9999;", 1, 9999 * 9999 * 9999 / 9999 / 9999);
    }

    private static void places() {
        String table = "[10,11,12,13,14,15,16,17]";
        for (int i = 0; i < 8; i++) {
            Due.value(table + "a=k" + i + ";", 0, 10 + i);
        }
        Due.value(table + "a=kw;", 0, 11);
        Due.value(table + "a=kn;", 0, 14);
        Due.value(table + "a=3-3;b=ka;", 1, 10);
    }

    private static void sixEditions() {
        StandardRules x = new StandardRules();
        for (int i = 0; i < 6; i++) {
            int number = i;
            Due.write(x, "[" + i + "]a=1;");
            Due.is("edition", number, () -> x.edition(number));
            // A wrong text takes no number.
            Due.is("none", number < 5 ? Due.MEANING : Due.TURN, () -> x.edition(number));
        }
        Due.write(x, "[9]a=1;");
        Due.is("a seventh", Due.TURN, () -> x.edition(0));
        for (int i = 0; i < 6; i++) {
            int number = i;
            Due.is("table", number, () -> x.table(number, 0));
        }
        Due.is("no table", Due.INDEX, () -> x.table(6, 0));
    }

    private static void fromADayOn() {
        StandardRules x = new StandardRules();
        Due.write(x, "[1]a=1;");
        Due.is("day -1", Due.RANGE, () -> x.edition(-1));
        Due.is("day 10000", Due.RANGE, () -> x.edition(10000));
        Due.is("day 9999", 0, () -> x.edition(9999));
        counts(x, 9998, -1);
        counts(x, 9999, 0);
        Due.write(x, "[1]a=1;");
        Due.is("day 0", 1, () -> x.edition(0));
        counts(x, 0, 1);
        counts(x, 9998, 1);
        counts(x, 9999, 0);
    }

    private static void latestDay() {
        StandardRules x = new StandardRules();
        int[] days = {100, 300, 200, 50};
        for (int day : days) {
            Due.write(x, "[1]a=" + day + ";");
            x.edition(day);
        }
        int[][] due = {{49, -1}, {50, 3}, {99, 3}, {100, 0}, {199, 0}, {200, 2}, {299, 2}, {300, 1}, {9999, 1}};
        for (int[] row : due) {
            counts(x, row[0], row[1]);
            Due.is("its value", row[1] < 0 ? Due.TURN : "" + days[row[1]], () -> x.value(0, 0, 0, 0, 0));
        }
    }

    private static void sameDay() {
        StandardRules x = new StandardRules();
        int[] days = {7, 7, 3, 7, 3};
        int[] onDaySeven = {0, 1, 1, 3, 3};
        for (int i = 0; i < days.length; i++) {
            Due.write(x, "[1]a=" + i + ";");
            x.edition(days[i]);
            counts(x, 7, onDaySeven[i]);
        }
        counts(x, 6, 4);
        counts(x, 8, 3);
        counts(x, 2, -1);
    }

    private static void sizes() {
        StandardRules x = Due.having("[1]a=w;b=t;c=l;d=n;");
        int[] edges = {0, 1, 9998, 9999};
        int[] outside = {-1, 10000, LOWEST_INT, Integer.MAX_VALUE};
        for (int i = 0; i < 4; i++) {
            int rule = i;
            for (int size : edges) {
                int[] s = {5, 5, 5, 5};
                s[rule] = size;
                Due.is("size " + size, size, () -> x.value(rule, s[0], s[1], s[2], s[3]));
            }
            for (int size : outside) {
                int[] s = {5, 5, 5, 5};
                s[rule] = size;
                Due.is("size " + size, Due.RANGE, () -> x.value(rule, s[0], s[1], s[2], s[3]));
                Due.is("unused size " + size, Due.RANGE, () -> x.value((rule + 1) % 4, s[0], s[1], s[2], s[3]));
            }
        }
    }

    private static void wrapAround() {
        Due.value("[1]a=9999*9999*9999;", 0, 9999 * 9999 * 9999);
        Due.value(LOWEST, 0, LOWEST_INT);
        Due.value(LOWEST + "c=a-1;", 2, Integer.MAX_VALUE);
        Due.value(LOWEST + "c=a+a;", 2, 0);
        Due.value(LOWEST + "c=0-a;", 2, LOWEST_INT);
        Due.value(LOWEST + "c=a*b;", 2, LOWEST_INT);
        Due.value(LOWEST + "c=a-1;d=c+1;", 3, LOWEST_INT);
        Due.value(LOWEST + "c=a-1;d=c*2;", 3, -2);
        // A product that is taken away is reckoned whole first.
        Due.value(LOWEST + "c=0-a/2;", 2, 1 << 30);
        Due.value(LOWEST + "c=0-a/3;", 2, 715827882);
    }

    private static void quotients() {
        Due.value("[1]a=7/2;", 0, 3);
        Due.value("[1]a=0-7;b=a/2;", 1, -3);
        Due.value("[1]a=0-2;b=7/a;", 1, -3);
        Due.value("[1]a=0-7;b=0-2;c=a/b;", 2, 3);
        Due.value("[1]a=0-1;b=a/2;", 1, 0);
        Due.value("[1]a=0/5;", 0, 0);
        Due.value("[1]a=5/9999;", 0, 0);
        Due.value("[1]a=0-7/2;", 0, -3);
        Due.value(LOWEST + "c=a/b;", 2, LOWEST_INT);
    }

    private static void dividedByZero() {
        Due.opens("[1]a=1/0;", 0, 0, 0);
        Due.opens("[1]a=0/0;", 0, 0, 0);
        Due.opens("[1]a=1*1/0;", 0, 0, 0);
        Due.opens("[1]a=1/1/0;", 0, 0, 0);
        Due.opens("[1]a=0*1/0;", 0, 0, 0);
        Due.opens("[1]a=1+1-1+1-1/0;", 0, 0, 0);
        Due.opens("[0]a=1/k0;", 0, 0, 0);
        Due.opens("[1]a=w-1;b=1/a;", 1, 1, 0);
        Due.opens("[1]a=1/2;b=1/a;", 1, 1, 0);
        Due.opens(LOWEST + "c=a+a;d=1/c;", 3, 3, 0);
        Due.value("[1]a=0-1;b=1/a;", 1, -1);
        Due.value("[1]a=1*0;", 0, 0);
    }

    private static void outsideTheTable() {
        Due.opens("[5]a=k1;", 0, 0, 1);
        Due.opens("[5]a=k9999;", 0, 0, 1);
        Due.opens("[1,2,3,4,5,6,7,8]a=k8;", 0, 0, 1);
        Due.opens("[5]a=0-1;b=ka;", 1, 1, 1);
        Due.opens("[5]a=2048*1024*1024;b=ka;", 1, 1, 1);
        Due.opens("[5]a=2048*1024*1024;b=a-1;c=kb;", 2, 2, 1);
        Due.opens("[5]a=kw;", 0, 0, 1);
        Due.opens("[5]a=0*k1;", 0, 0, 1);
        Due.value("[5]a=k0;", 0, 5);
        Due.value("[1,2,3,4,5,6,7,8]a=k7;", 0, 8);
        // A longer table of an edition told before lends nothing.
        StandardRules x = Due.having("[1,2,3]a=k2;");
        Due.write(x, "[7]a=k2;");
        x.edition(0);
        Due.is("the new table", Due.MEANING, () -> x.value(0, 0, 0, 0, 0));
        // Nor does one of a wrong text.
        Due.write(x, "[1,2,3]!");
        Due.is("a wrong text", Due.MEANING, () -> x.edition(0));
        Due.write(x, "[7,8]a=k1;b=k2;");
        x.edition(0);
        Due.is("k1", 8, () -> x.value(0, 0, 0, 0, 0));
        Due.is("k2", Due.MEANING, () -> x.value(1, 0, 0, 0, 0));
    }

    private static void comesFirst() {
        Due.opens("[1]a=1/0+k1;", 0, 0, 0);
        Due.opens("[1]a=k1+1/0;", 0, 0, 1);
        Due.opens("[1]a=k1/0;", 0, 0, 1);
        Due.opens("[1]a=1/k1;", 0, 0, 1);
        Due.opens("[1]a=1/0*k1;", 0, 0, 0);
        Due.opens("[1]a=1/0;b=k1;c=a+b;", 2, 0, 0);
        Due.opens("[1]a=1/0;b=k1;c=b+a;", 2, 1, 1);
        Due.opens("[1]a=1/0;b=k1+a;", 1, 1, 1);
        Due.opens("[1]a=1/0;b=a+k1;", 1, 0, 0);
        Due.opens("[1]a=1/0;b=1/0+a;", 1, 1, 0);
    }

    private static void withinUsedRules() {
        Due.opens("[1]a=1/0;b=a;", 1, 0, 0);
        Due.opens("[1]a=k1;b=0*a;", 1, 0, 1);
        Due.opens("[1]a=1/0;b=1/a;", 1, 0, 0);
        Due.opens("[1]a=1/0;b=ka;", 1, 0, 0);
        Due.opens("[1]h=k1;g=h;f=g;e=f;d=e;c=d;b=c;a=b;", 0, 7, 1);
        // A rule that is open hurts only those that use it.
        Due.value("[1]a=1/0;b=2;", 1, 2);
        Due.value("[1]a=2;b=1/0;", 0, 2);
        Due.value("[1]a=1/0;b=a;c=7;d=c;", 3, 7);
    }

    private static void twentyChanges() {
        StandardRules x = new StandardRules();
        for (int i = 0; i < 20; i++) {
            int number = i;
            Due.is("change", number, () -> x.change(number / 8, number % 8, 0, number));
            // A refused one takes no number.
            Due.is("none", number < 19 ? Due.RANGE : Due.TURN, () -> x.change(0, 0, 10, 0));
        }
        Due.is("a 21st", Due.TURN, () -> x.change(9, 7, 9, 1));
        for (int i = 0; i < 20; i++) {
            int number = i;
            x.order(number / 8, 0);
            Due.is("agreed", number, () -> x.agreed(number % 8));
        }
        x.order(9, 0);
        Due.is("not the 21st", -1, () -> x.agreed(7));
    }

    private static void forACustomer() {
        for (int customer = 0; customer < 10; customer++) {
            StandardRules x = new StandardRules();
            int rule = customer % 8;
            x.change(customer, rule, 0, 50);
            for (int i = 0; i < 80; i++) {
                int other = i / 8;
                int otherRule = i % 8;
                x.order(other, 0);
                boolean isIt = other == customer && otherRule == rule;
                Due.is("agreed", isIt ? 0 : -1, () -> x.agreed(otherRule));
                Due.is("value", isIt ? "50" : Due.TURN, () -> x.value(otherRule, 0, 0, 0, 0));
            }
        }
    }

    private static void ranks() {
        StandardRules x = new StandardRules();
        Due.is("rank -1", Due.RANGE, () -> x.change(0, 0, -1, 5));
        Due.is("rank 10", Due.RANGE, () -> x.change(0, 0, 10, 5));
        for (int i = 0; i < 10; i++) {
            int rank = i;
            Due.is("rank " + rank, rank, () -> x.change(0, 0, rank, rank));
            Due.is("counts", rank, () -> x.agreed(0));
        }
    }

    private static void numbers() {
        StandardRules x = Due.having("[1]a=3;");
        Due.is("value -10000", Due.RANGE, () -> x.change(0, 0, 0, -10000));
        Due.is("value 10000", Due.RANGE, () -> x.change(0, 0, 0, 10000));
        for (int number : new int[] {-9999, -1, 0, 1, 9999}) {
            x.change(0, 0, 0, number);
            Due.is("changed to " + number, number, () -> x.value(0, 0, 0, 0, 0));
        }
        x.order(1, 0);
        Due.is("another customer", 3, () -> x.value(0, 0, 0, 0, 0));
    }

    private static void allCases() {
        StandardRules x = Due.having("[1]a=1/w;b=kw;");
        x.change(0, 0, 0, 40);
        x.change(0, 1, 0, 41);
        for (int size : new int[] {0, 1, 9999}) {
            Due.is("a", 40, () -> x.value(0, size, size, size, size));
            Due.is("b", 41, () -> x.value(1, size, size, size, size));
        }
        Due.is("never open", Due.TURN, () -> x.open(0));
        Due.is("no open case of a", -1, () -> x.example(0, 5));
        Due.is("no open case of b", -1, () -> x.example(1, 5));
        x.order(1, 0);
        Due.is("open for another", Due.MEANING, () -> x.value(0, 0, 0, 0, 0));
    }

    private static void whereOthersUseIt() {
        StandardRules x = Due.having("[5,6]a=1/w;b=a+1;c=ka;d=1/a;e=b*b;");
        x.change(0, 0, 0, 1);
        Due.is("in a sum", 2, () -> x.value(1, 0, 0, 0, 0));
        Due.is("as a place", 6, () -> x.value(2, 0, 0, 0, 0));
        Due.is("as a divisor", 1, () -> x.value(3, 0, 0, 0, 0));
        Due.is("at second hand", 4, () -> x.value(4, 0, 0, 0, 0));
        x.change(0, 0, 0, 2);
        Due.is("outside now", Due.MEANING, () -> x.value(2, 5, 0, 0, 0));
        Due.is("in c", 2, () -> x.open(0));
        Due.is("outside the table", 1, () -> x.open(1));
        x.change(0, 0, 0, -1);
        Due.is("below the table", Due.MEANING, () -> x.value(2, 5, 0, 0, 0));
        x.change(0, 0, 0, 0);
        Due.is("divided by it", Due.MEANING, () -> x.value(3, 5, 0, 0, 0));
        Due.is("in d", 3, () -> x.open(0));
        Due.is("divided by 0", 0, () -> x.open(1));
        x.change(0, 1, 0, 9);
        Due.is("by way of a changed rule", 81, () -> x.value(4, 0, 0, 0, 0));
        x.order(1, 0);
        Due.is("not for another customer", Due.MEANING, () -> x.value(1, 0, 0, 0, 0));
    }

    private static void highestRank() {
        StandardRules x = new StandardRules();
        int[] ranks = {4, 3, 5, 0, 9, 8};
        int[] due = {0, 0, 2, 2, 4, 4};
        for (int i = 0; i < ranks.length; i++) {
            x.change(0, 0, ranks[i], 100 + i);
            int counting = due[i];
            Due.is("agreed", counting, () -> x.agreed(0));
            Due.is("value", 100 + counting, () -> x.value(0, 0, 0, 0, 0));
        }
        // Ranks of another rule, or of another customer, do not count.
        x.change(0, 1, 0, 1);
        x.change(1, 0, 9, 1);
        Due.is("another rule", 6, () -> x.agreed(1));
        Due.is("another customer", 4, () -> x.agreed(0));
    }

    private static void sameRank() {
        for (int rank : new int[] {0, 9}) {
            StandardRules x = new StandardRules();
            for (int i = 0; i < 3; i++) {
                int number = i;
                x.change(0, 0, rank, 100 + number);
                Due.is("agreed", number, () -> x.agreed(0));
                Due.is("value", 100 + number, () -> x.value(0, 0, 0, 0, 0));
            }
        }
    }

    private static void counts(StandardRules x, int day, int edition) {
        x.order(0, day);
        Due.is("edition of day " + day, edition, () -> x.told(0));
    }
}
