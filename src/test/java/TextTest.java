/** Promises 3 and 4: the text's form, and where it is wrong. */
public final class TextTest {
    private static final String EIGHT = "[1]a=1;b=1;c=1;d=1;e=1;f=1;g=1;h=1;";

    public static void main(String[] args) {
        rightOnes();
        wrongTables();
        wrongRules();
        wrongSums();
        wrongNumbers();
        wrongFactors();
        blanks();
        placeFollowsTheLatest();
        Due.end();
    }

    private static void rightOnes() {
        right("[0]a=0;");
        right("[9999,1,2,3,4,5,6,7]h=9999;");
        right("[1]a=1*2/3+4*5*6-7/8/9+w*t*l-n*1*1;");
        right("[1]a=1;b=a;c=kb;d=ka+kw+kt+kl+kn;");
        right("[1]h=1;a=h;");
        right(EIGHT);
    }

    private static void wrongTables() {
        wrong("", 0);
        wrong("a=1;", 0);
        wrong("[", 1);
        wrong("[]a=1;", 1);
        wrong("[,1]a=1;", 1);
        wrong("[1", 2);
        wrong("[1,", 3);
        wrong("[1,]a=1;", 3);
        wrong("[1,,2]a=1;", 3);
        wrong("[w]a=1;", 1);
        wrong("[-1]a=1;", 1);
        wrong("[1;2]a=1;", 2);
        wrong("[1]", 3);
        wrong("[1][1]a=1;", 3);
        wrong("[1,2,3,4,5,6,7,8,9]a=1;", 16);
        wrong("[1,2,3,4,5,6,7,8,", 16);
        wrong("[1,2,3,4,5,6,7,8", 16);
        wrong("[1,2,3,4,5,6,7,81234", 19);
    }

    private static void wrongRules() {
        wrong("[1];", 3);
        wrong("[1]i=1;", 3);
        wrong("[1]A=1;", 3);
        wrong("[1]`=1;", 3);
        wrong("[1]w=1;", 3);
        wrong("[1]k=1;", 3);
        wrong("[1]a", 4);
        wrong("[1]a:1;", 4);
        wrong("[1]a==1;", 5);
        wrong("[1]a=", 5);
        wrong("[1]a=;", 5);
        wrong("[1]a=1", 6);
        wrong("[1]a=1,", 6);
        wrong("[1]a=1;;", 7);
        wrong("[1]a=1;b", 8);
        wrong("[1]a=1;a=2;", 7);
        wrong("[1]a=1;b=1;a=2;", 11);
        wrong(EIGHT + "a=1;", 35);
        wrong(EIGHT + "i=1;", 35);
        wrong(EIGHT + ";", 35);
    }

    private static void wrongSums() {
        wrong("[1]a=+1;", 5);
        wrong("[1]a=-1;", 5);
        wrong("[1]a=1+;", 7);
        wrong("[1]a=1+", 7);
        wrong("[1]a=1*;", 7);
        wrong("[1]a=1*+1;", 7);
        wrong("[1]a=1--1;", 7);
        wrong("[1]a=1/2*3/4;", 10);
        wrong("[1]a=1+2-3+4-5+6;", 14);
        wrong("[1]a=1+2-3+4-5*6*7-8;", 18);
        wrong("[1]a=1+2-3+4-5*6*7*8;", 18);
        wrong("[1]a=1*2*3+4*5*6*7;", 16);
        wrong("[1]a=1w;", 6);
        wrong("[1]a=w1;", 6);
        wrong("[1]a=wt;", 6);
        wrong("[1]a=(1);", 5);
    }

    private static void wrongNumbers() {
        wrong("[00]a=1;", 2);
        wrong("[01]a=1;", 2);
        wrong("[1]a=00;", 6);
        wrong("[1]a=09;", 6);
        wrong("[12345]a=1;", 5);
        wrong("[1]a=10000;", 9);
        wrong("[1]a=1+12345", 11);
        wrong("[1]a=k01;", 7);
        wrong("[1]a=k10000;", 10);
    }

    private static void wrongFactors() {
        wrong("[1]a=a;", 5);
        wrong("[1]a=b;b=1;", 5);
        wrong("[1]a=1;b=1+b;", 11);
        wrong("[1]a=1;b=c;", 9);
        wrong("[1]a=1;b=kc;", 10);
        wrong("[1]a=k", 6);
        wrong("[1]a=k;", 6);
        wrong("[1]a=kk1;", 6);
        wrong("[1]a=k k1;", 7);
        wrong("[1]a=1k1;", 6);
        wrong("[1]a=i;", 5);
        wrong("[1]a=x;", 5);
    }

    private static void blanks() {
        right(" [ 1 , 2 ] a = 1 * w / k 0 + k t - n ; b = k a ; ");
        right("[1]a=1;   ");
        right("   [1]a=1;");
        right(EIGHT + " ");
        wrong("   ", 3);
        wrong("[1 2]a=1;", 3);
        wrong("[0 0]a=1;", 3);
        wrong("[1]a=1 2;", 7);
        wrong("[1]a=12 34 ;", 8);
        wrong("[1]  ", 5);
        wrong("[1]a= ", 6);
        wrong("[1]a=1  ", 8);
        wrong("[1]a=1\t;", 6);
        wrong("[1]\na=1;", 3);
        wrong("[1]a=1*2*3 *4;", 11);
        wrong("[1,2,3,4,5,6,7,8 ,9]a=1;", 17);
        wrong("[1]" + " ".repeat(197), 200);
    }

    private static void placeFollowsTheLatest() {
        StandardRules x = Due.having("[1]a=1;");
        Due.is("after a right one", -1, () -> x.place());
        Due.write(x, "[1]b=2;c");
        Due.is("wrong", Due.MEANING, () -> x.edition(0));
        Due.is("after a wrong one", 8, () -> x.place());
        Due.is("nothing of it counts", 0, () -> x.told(0));
        Due.is("no rule b", Due.TURN, () -> x.value(1, 0, 0, 0, 0));
        Due.write(x, "[5,6]c=3;");
        Due.is("right again", 1, () -> x.edition(0));
        Due.is("after a right one", -1, () -> x.place());
        Due.is("its rules", 1, () -> x.told(1));
        Due.is("no rule b of the wrong text", Due.TURN, () -> x.value(1, 0, 0, 0, 0));
        Due.is("its numbers", 2, () -> x.table(1, -1));
    }

    private static void right(String text) {
        StandardRules x = new StandardRules();
        Due.write(x, text);
        Due.is("edition of " + text, 0, () -> x.edition(0));
        Due.is("place of " + text, -1, () -> x.place());
    }

    private static void wrong(String text, int place) {
        StandardRules x = new StandardRules();
        Due.write(x, text);
        Due.is("edition of " + text, Due.MEANING, () -> x.edition(0));
        Due.is("place of " + text, place, () -> x.place());
    }
}
