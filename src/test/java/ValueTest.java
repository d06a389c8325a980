/** Promises 7, 8 and 9: values, open cases, examples of them. */
public final class ValueTest {
    public static void main(String[] args) {
        reckonsFromLeftToRight();
        goesByInts();
        checksInOrder();
        isOpenWhereItComesFirst();
        keepsTheLatestOpen();
        findsExamples();
        staysQuickWhenRulesUseRules();
        Due.end();
    }

    private static void reckonsFromLeftToRight() {
        Due.value("[1]a=7/2*2;", 0, 6);
        Due.value("[1]a=2*7/2;", 0, 7);
        Due.value("[1]a=1-2-3;", 0, -4);
        Due.value("[1]a=1-2*3+4;", 0, -1);
        Due.value("[1]a=1+2-3+4-5;", 0, -1);
        Due.value("[1]a=w*1000+t*100+l*10+n;", 0, 1234);
        Due.value("[10,20,30]a=k1;b=kt;c=a/20;d=w;e=kd*kc;", 4, 400);
        Due.value("[1]h=5;c=h*h;a=c*c;", 0, 625);
        Due.value("[1]a=0-7;b=a/2;", 1, -3);
        Due.value("[1]a=0-7;b=7/a;c=6/a;", 2, 0);
    }

    private static void goesByInts() {
        Due.value("[1]a=9999*9999*9999;", 0, 9999 * 9999 * 9999);
        // A product is taken away only when it is whole: the lowest int has no counterpart.
        Due.value("[1]a=2048*1024*1024;b=0-a/2;", 1, 1 << 30);
        Due.value("[1]a=2048*1024*1024;b=0-1;c=a/b;", 2, Integer.MIN_VALUE);
        Due.value("[1]a=2048*1024*1024;b=a-1;", 1, Integer.MAX_VALUE);
        StandardRules x = Due.having("[1]a=2048*1024*1024;b=ka;");
        Due.is("far outside", Due.MEANING, () -> x.value(1, 0, 0, 0, 0));
    }

    private static void checksInOrder() {
        StandardRules x = Due.having("[1]a=1/w;");
        Due.is("rule -1", Due.INDEX, () -> x.value(-1, 0, 0, 0, 0));
        Due.is("rule 8", Due.INDEX, () -> x.value(8, -1, 0, 0, 0));
        Due.is("no rule b", Due.TURN, () -> x.value(1, -1, 0, 0, 0));
        Due.is("w -1", Due.RANGE, () -> x.value(0, -1, 0, 0, 0));
        Due.is("w 10000", Due.RANGE, () -> x.value(0, 10000, 0, 0, 0));
        Due.is("t 10000", Due.RANGE, () -> x.value(0, 0, 10000, 0, 0));
        Due.is("l -1", Due.RANGE, () -> x.value(0, 0, 0, -1, 0));
        Due.is("n 10000", Due.RANGE, () -> x.value(0, 0, 0, 0, 10000));
        Due.is("never open yet", Due.TURN, () -> x.open(1));
        Due.is("open -1", Due.INDEX, () -> x.open(-1));
        Due.is("open 2", Due.INDEX, () -> x.open(2));
        Due.is("highest sizes", 0, () -> x.value(0, 9999, 9999, 9999, 9999));
        Due.is("example of rule -1", Due.INDEX, () -> x.example(-1, 9));
        Due.is("example of rule 8", Due.INDEX, () -> x.example(8, 0));
        Due.is("example of rule b", Due.TURN, () -> x.example(1, -1));
        Due.is("most -1", Due.RANGE, () -> x.example(0, -1));
        Due.is("most 6", Due.RANGE, () -> x.example(0, 6));
    }

    private static void isOpenWhereItComesFirst() {
        Due.opens("[1]a=1/0;", 0, 0, 0);
        Due.opens("[1]a=k1;", 0, 0, 1);
        Due.opens("[1]a=0-1;b=ka;", 1, 1, 1);
        Due.opens("[1]a=1/0+k1;", 0, 0, 0);
        Due.opens("[1]a=k1+1/0;", 0, 0, 1);
        Due.opens("[1]a=k1/0;", 0, 0, 1);
        Due.opens("[1]a=1/k1;", 0, 0, 1);
        Due.opens("[0]a=1/k0;", 0, 0, 0);
        Due.opens("[1]a=1/0;b=a;c=b;", 2, 0, 0);
        Due.opens("[1]a=1/0;b=k1+a;", 1, 1, 1);
        Due.opens("[1]a=1/0;b=k1;c=b+a;", 2, 1, 1);
        Due.opens("[1]a=1/0;b=k1;c=a+b;", 2, 0, 0);
        Due.opens("[1]a=1/0;b=1/a;", 1, 0, 0);
        Due.opens("[1]a=1/0;b=ka;", 1, 0, 0);
        Due.opens("[1]a=k1;b=0*a;", 1, 0, 1);
        Due.opens("[1]h=0;a=1/h;", 0, 0, 0);
        // A rule that is open hurts only those that use it.
        Due.value("[1]a=1/0;b=2;", 1, 2);
        Due.value("[1]a=k1;b=2;c=b;", 2, 2);
        Due.value("[7]a=0/1;b=k0;", 1, 7);
    }

    private static void keepsTheLatestOpen() {
        StandardRules x = Due.having("[1]a=1/w;b=kt;");
        Due.is("a", Due.MEANING, () -> x.value(0, 0, 0, 0, 0));
        Due.is("a is not open", 1, () -> x.value(0, 1, 0, 0, 0));
        Due.is("range", Due.RANGE, () -> x.value(0, -1, 0, 0, 0));
        Due.is("an example is no value", 100, () -> x.example(1, 5));
        Due.is("rule", 0, () -> x.open(0));
        Due.is("why", 0, () -> x.open(1));
        Due.is("b", Due.MEANING, () -> x.value(1, 0, 1, 0, 0));
        Due.is("rule", 1, () -> x.open(0));
        Due.is("why", 1, () -> x.open(1));
    }

    private static void findsExamples() {
        Due.example("[1]a=1;", 0, 5, -1);
        Due.example("[1]a=1/0;", 0, 0, 0);
        Due.example("[1]a=w-5+t-5;b=1/a;", 1, 5, 5500);
        Due.example("[1]a=w-5+t-5;b=1/a;", 1, 4, -1);
        Due.example("[1]a=w*1000+t*100+l*10+n;b=a-2143;c=1/b;", 2, 5, 2143);
        Due.example("[1]a=w*1000+t*100+l*10+n;b=a-2143;c=1/b;", 2, 4, 2143);
        Due.example("[1]a=w*1000+t*100+l*10+n;b=a-2143;c=1/b;", 2, 3, -1);
        Due.example("[1,1,1]a=w+t+l+n;b=ka;", 1, 5, 3);
        Due.example("[1,1,1]a=w+t+l+n;b=ka;", 1, 2, 12);
        Due.example("[1,1,1]a=w+t+l+n;b=ka;", 1, 1, 111);
        Due.example("[1,1,1,1]a=w+t+l+n;b=ka;", 1, 1, 1111);
        Due.example("[1,1,1,1,1]a=w+t+l+n;b=ka;", 1, 1, -1);
        Due.example("[1]a=w*t*l;b=a*n-625;c=1/b;", 2, 5, 5555);
        StandardRules x = Due.having("[1]a=1/w;");
        Due.is("example", 0, () -> x.example(0, 5));
        Due.is("it leaves open() alone", Due.TURN, () -> x.open(0));
    }

    private static void staysQuickWhenRulesUseRules() {
        StringBuilder text = new StringBuilder("[1]a=w+t-l+n;");
        for (char rule = 'b'; rule <= 'h'; rule++) {
            char used = (char) (rule - 1);
            text.append(rule).append('=').append((used + "*" + used + "/1+").repeat(3)).append(used).append(';');
        }
        StandardRules x = Due.having(text.toString());
        for (int i = 0; i < 400; i++) {
            Due.is("example", -1, () -> x.example(7, 5));
        }
    }
}
