/** Promises 3 and 4: the text's form, and where it is wrong. */
public final class TextTest {
    private static final String EIGHT = "[1]a=1;b=1;c=1;d=1;e=1;f=1;g=1;h=1;";

    public static void main(String[] args) {
        rightOnes();
        wrongTables();
        wrongRules();
        wrongSums();
        wrongNumbers();
        wrongFactors();
        blanks();
        placeFollowsTheLatest();
        Due.end();
    }

    private static void rightOnes() {
        Due.right("[0]a=0;");
        Due.right("[9999,1,2,3,4,5,6,7]h=9999;");
        Due.right("[1]a=1*2/3+4*5*6-7/8/9+w*t*l-n*1*1;");
        Due.right("[1]a=1;b=a;c=kb;d=ka+kw+kt+kl+kn;");
        Due.right("[1]h=1;a=h;");
        Due.right(EIGHT);
    }

    private static void wrongTables() {
        Due.wrong("", 0);
        Due.wrong("a=1;", 0);
        Due.wrong("[", 1);
        Due.wrong("[]a=1;", 1);
        Due.wrong("[,1]a=1;", 1);
        Due.wrong("[1", 2);
        Due.wrong("[1,", 3);
        Due.wrong("[1,]a=1;", 3);
        Due.wrong("[1,,2]a=1;", 3);
        Due.wrong("[w]a=1;", 1);
        Due.wrong("[-1]a=1;", 1);
        Due.wrong("[1;2]a=1;", 2);
        Due.wrong("[1]", 3);
        Due.wrong("[1][1]a=1;", 3);
        Due.wrong("[1,2,3,4,5,6,7,8,9]a=1;", 16);
        Due.wrong("[1,2,3,4,5,6,7,8,", 16);
        Due.wrong("[1,2,3,4,5,6,7,8", 16);
        Due.wrong("[1,2,3,4,5,6,7,81234", 19);
    }

    private static void wrongRules() {
        Due.wrong("[1];", 3);
        Due.wrong("[1]i=1;", 3);
        Due.wrong("[1]A=1;", 3);
        Due.wrong("[1]`=1;", 3);
        Due.wrong("[1]w=1;", 3);
        Due.wrong("[1]k=1;", 3);
        Due.wrong("[1]a", 4);
        Due.wrong("[1]a:1;", 4);
        Due.wrong("[1]a==1;", 5);
        Due.wrong("[1]a=", 5);
        Due.wrong("[1]a=;", 5);
        Due.wrong("[1]a=1", 6);
        Due.wrong("[1]a=1,", 6);
        Due.wrong("[1]a=1;;", 7);
        Due.wrong("[1]a=1;b", 8);
        Due.wrong("[1]a=1;a=2;", 7);
        Due.wrong("[1]a=1;b=1;a=2;", 11);
        Due.wrong(EIGHT + "a=1;", 35);
        Due.wrong(EIGHT + "i=1;", 35);
        Due.wrong(EIGHT + ";", 35);
    }

    private static void wrongSums() {
        Due.wrong("[1]a=+1;", 5);
        Due.wrong("[1]a=-1;", 5);
        Due.wrong("[1]a=1+;", 7);
        Due.wrong("[1]a=1+", 7);
        Due.wrong("[1]a=1*;", 7);
        Due.wrong("[1]a=1*+1;", 7);
        Due.wrong("[1]a=1--1;", 7);
        Due.wrong("[1]a=1/2*3/4;", 10);
        Due.wrong("[1]a=1+2-3+4-5+6;", 14);
        Due.wrong("[1]a=1+2-3+4-5*6*7-8;", 18);
        Due.wrong("[1]a=1+2-3+4-5*6*7*8;", 18);
        Due.wrong("[1]a=1*2*3+4*5*6*7;", 16);
        Due.wrong("[1]a=1w;", 6);
        Due.wrong("[1]a=w1;", 6);
        Due.wrong("[1]a=wt;", 6);
        Due.wrong("[1]a=(1);", 5);
    }

    private static void wrongNumbers() {
        Due.wrong("[00]a=1;", 2);
        Due.wrong("[01]a=1;", 2);
        Due.wrong("[1]a=00;", 6);
        Due.wrong("[1]a=09;", 6);
        Due.wrong("[12345]a=1;", 5);
        Due.wrong("[1]a=10000;", 9);
        Due.wrong("[1]a=1+12345", 11);
        Due.wrong("[1]a=k01;", 7);
        Due.wrong("[1]a=k10000;", 10);
    }

    private static void wrongFactors() {
        Due.wrong("[1]a=a;", 5);
        Due.wrong("[1]a=b;b=1;", 5);
        Due.wrong("[1]a=1;b=1+b;", 11);
        Due.wrong("[1]a=1;b=c;", 9);
        Due.wrong("[1]a=1;b=kc;", 10);
        Due.wrong("[1]a=k", 6);
        Due.wrong("[1]a=k;", 6);
        Due.wrong("[1]a=kk1;", 6);
        Due.wrong("[1]a=k k1;", 7);
        Due.wrong("[1]a=1k1;", 6);
        Due.wrong("[1]a=i;", 5);
        Due.wrong("[1]a=x;", 5);
    }

    private static void blanks() {
        Due.right(" [ 1 , 2 ] a = 1 * w / k 0 + k t - n ; b = k a ; ");
        Due.right("[1]a=1;   ");
        Due.right("   [1]a=1;");
        Due.right(EIGHT + " ");
        Due.wrong("   ", 3);
        Due.wrong("[1 2]a=1;", 3);
        Due.wrong("[0 0]a=1;", 3);
        Due.wrong("[1]a=1 2;", 7);
        Due.wrong("[1]a=12 34 ;", 8);
        Due.wrong("[1]  ", 5);
        Due.wrong("[1]a= ", 6);
        Due.wrong("[1]a=1  ", 8);
        Due.wrong("[1]a=1\t;", 6);
        Due.wrong("[1]\na=1;", 3);
        Due.wrong("[1]a=1*2*3 *4;", 11);
        Due.wrong("[1,2,3,4,5,6,7,8 ,9]a=1;", 17);
        Due.wrong("[1]" + " ".repeat(197), 200);
    }

    private static void placeFollowsTheLatest() {
        StandardRules x = Due.having("[1]a=1;");
        Due.is("after a right one", -1, () -> x.place());
        Due.write(x, "[1]b=2;c");
        Due.is("wrong", Due.MEANING, () -> x.edition(0));
        Due.is("after a wrong one", 8, () -> x.place());
        Due.is("nothing of it counts", 0, () -> x.told(0));
        Due.is("no rule b", Due.TURN, () -> x.value(1, 0, 0, 0, 0));
        Due.write(x, "[5,6]c=3;");
        Due.is("right again", 1, () -> x.edition(0));
        Due.is("after a right one", -1, () -> x.place());
        Due.is("its rules", 1, () -> x.told(1));
        Due.is("no rule b of the wrong text", Due.TURN, () -> x.value(1, 0, 0, 0, 0));
        Due.is("its numbers", 2, () -> x.table(1, -1));
    }
}
