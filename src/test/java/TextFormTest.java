/** Terms: each sentence on a text's form, and on the place where it is wrong, by its boundary cases. */
public final class TextFormTest {
    private static final String FULL_SUM = "1*2*3+4*5*6-7*8*9+1*1*1-2*2*2";

    public static void main(String[] args) {
        Due.sentence("A TEXT (at most 200 bytes", TextFormTest::longestText);
        Due.sentence("blanks may stand between signs, not within numbers)", TextFormTest::blanks);
        Due.sentence("is a TABLE, then RULES", TextFormTest::tableThenRules);
        Due.sentence("The table is [, 1 to 8 NUMBERS with commas between, ].", TextFormTest::tables);
        Due.sentence("A rule is a letter a .. h (each once), =, a SUM, a semicolon", TextFormTest::rules);
        Due.sentence("there is one rule at least.", TextFormTest::oneRuleAtLeast);
        Due.sentence("A SUM: a PRODUCT, then + or - and a PRODUCT, at most 5 products", TextFormTest::sums);
        Due.sentence("a PRODUCT: a FACTOR, then * or / and a FACTOR, at most 3 factors", TextFormTest::products);
        Due.sentence("A FACTOR: a NUMBER, one of the SIZES w, t, l, n", TextFormTest::factors);
        Due.sentence("a letter a .. h of a rule of the text that stands ahead of it", TextFormTest::lettersAhead);
        Due.sentence("or k and a factor without k", TextFormTest::oneK);
        Due.sentence("NUMBERS are 0 .. 9,999, without 0 in front.", TextFormTest::numbers);
        Due.sentence("WRONG at the first byte with which it can't be right, whatever follows", TextFormTest::firstWrong);
        Due.sentence("at the first byte with which it can't be right", TextFormTest::everyByte);
        Due.sentence("its length when something is missing", TextFormTest::missing);
        Due.sentence("a letter told twice, or that does not stand ahead, at itself", TextFormTest::lettersAtThemselves);
        Due.sentence("a fifth digit", TextFormTest::fifthDigit);
        Due.sentence("a ninth number of the table at its comma", TextFormTest::ninthNumber);
        Due.sentence("a sixth product, a fourth factor at their signs", TextFormTest::atTheirSigns);
        Due.end();
    }

    private static void longestText() {
        String longest = "[1]a=1;b=1;c=1;d=1;e=1;f=1;g=1;h=" + FULL_SUM + " ".repeat(137) + ";";
        Due.compare("length of the longest", "200", "" + longest.length());
        Due.right(longest);
        StandardRules x = new StandardRules();
        Due.write(x, "[1]a=1" + " ".repeat(194));
        Due.is("byte 201", Due.MEANING, () -> x.sign(';', 1));
        Due.is("without it", Due.MEANING, () -> x.edition(0));
        Due.is("its length", 200, () -> x.place());
    }

    private static void blanks() {
        Due.right("[ 1 , 20 ] a = 1 * w / k 0 + k t - n ; b = k a ;");
        Due.right("[1]   a   =   1   ;");
        // No blank has to stand anywhere, and some may stand at both ends.
        Due.right("[1]a=kw;b=ka;");
        Due.right("  [1]a=1;  ");
        Due.wrong("[1 0]a=1;", 3);
        Due.wrong("[1  0]a=1;", 4);
        Due.wrong("[1]a=999 9;", 9);
        Due.wrong("[1]a=0 0;", 7);
        Due.wrong("[1]a=k1 0;", 8);
        // Byte 32 alone is a blank.
        for (int other : new int[] {0, 9, 10, 13, 31, 33, 127, 160, 255}) {
            Due.wrong("[1]" + (char) other + "a=1;", 3);
        }
    }

    private static void tableThenRules() {
        Due.wrong("a=1;[1]", 0);
        Due.wrong("[1]a=1;[1]", 7);
        Due.wrong("[1][1]a=1;", 3);
    }

    private static void tables() {
        Due.wrong("[]a=1;", 1);
        Due.right("[1]a=1;");
        Due.right("[1,2,3,4,5,6,7]a=1;");
        Due.right("[1,2,3,4,5,6,7,8]a=1;");
        Due.wrong("[1,2,3,4,5,6,7,8,9]a=1;", 16);
        Due.wrong("(1]a=1;", 0);
        Due.wrong("[1)a=1;", 2);
        Due.wrong("[,1]a=1;", 1);
        Due.wrong("[1,]a=1;", 3);
        Due.wrong("[1,,2]a=1;", 3);
        Due.wrong("[1;2]a=1;", 2);
        Due.wrong("[w]a=1;", 1);
        Due.wrong("[-1]a=1;", 1);
    }

    private static void rules() {
        for (char letter = 'a'; letter <= 'h'; letter++) {
            Due.right("[1]" + letter + "=1;");
            Due.wrong("[1]" + letter + "=1;" + letter + "=1;", 7);
        }
        for (int other : new int[] {'`', 'i', 'A', 'H', 'k', 'w', 't', 'l', 'n', '1', '=', 'a' + 128}) {
            Due.wrong("[1]" + (char) other + "=1;", 3);
        }
        Due.right("[1]h=1;g=1;f=1;e=1;d=1;c=1;b=1;a=1;");
        Due.wrong("[1]a:1;", 4);
        Due.wrong("[1]a=;", 5);
        Due.wrong("[1]a=1:", 6);
        Due.wrong("[1]a=1;;", 7);
    }

    private static void oneRuleAtLeast() {
        Due.wrong("[1]", 3);
        Due.wrong("[1];", 3);
        Due.right("[1]a=1;");
    }

    private static void sums() {
        Due.right("[1]a=1+2-3+4-5;");
        Due.wrong("[1]a=1+2-3+4-5+6;", 14);
        Due.right("[1]a=" + FULL_SUM + ";b=" + FULL_SUM + ";");
        Due.wrong("[1]a=" + FULL_SUM + "+1;", 34);
        Due.wrong("[1]a=+1;", 5);
        Due.wrong("[1]a=-1;", 5);
        Due.wrong("[1]a=1++1;", 7);
        Due.wrong("[1]a=1-;", 7);
        Due.wrong("[1]a=1,1;", 6);
    }

    private static void products() {
        Due.right("[1]a=1*2/3;");
        Due.wrong("[1]a=1*2/3*4;", 10);
        Due.right("[1]a=1*2/3+4/5*6;");
        Due.wrong("[1]a=1*2/3+4/5*6/7;", 16);
        Due.wrong("[1]a=*1;", 5);
        Due.wrong("[1]a=/1;", 5);
        Due.wrong("[1]a=1*;", 7);
        Due.wrong("[1]a=1*/1;", 7);
        Due.wrong("[1]a=1 1;", 7);
        Due.wrong("[1]a=ww;", 6);
    }

    private static void factors() {
        Due.value("[5]a=0;", 0, 0);
        Due.value("[5]a=9999;", 0, 9999);
        Due.value("[5]a=w;", 0, 1);
        Due.value("[5]a=t;", 0, 2);
        Due.value("[5]a=l;", 0, 3);
        Due.value("[5]a=n;", 0, 4);
        for (int other : new int[] {'i', 'm', 'o', 's', 'u', 'v', 'x', 'W', '(', '[', 'w' + 128}) {
            Due.wrong("[5]a=" + (char) other + ";", 5);
        }
    }

    private static void lettersAhead() {
        for (char letter = 'a'; letter < 'h'; letter++) {
            char next = (char) (letter + 1);
            Due.right("[1]" + letter + "=1;" + next + "=" + letter + ";");
            Due.right("[1]" + next + "=1;" + letter + "=" + next + ";");
            Due.wrong("[1]" + letter + "=" + next + ";" + next + "=1;", 5);
            Due.wrong("[1]" + letter + "=" + letter + ";", 5);
        }
        // A rule of an edition told before is no rule of the text.
        StandardRules x = Due.having("[1]a=1;");
        Due.write(x, "[1]b=a;");
        Due.is("another text's rule", Due.MEANING, () -> x.edition(0));
        Due.is("at itself", 5, () -> x.place());
        // Nor is a rule that has been changed.
        x.change(0, 0, 0, 1);
        Due.write(x, "[1]b=a;");
        Due.is("a changed rule", Due.MEANING, () -> x.edition(0));
    }

    private static void oneK() {
        Due.value("[5,6,7,8,9]a=k1;", 0, 6);
        Due.value("[5,6,7,8,9]a=kn;", 0, 9);
        Due.value("[5,6,7,8,9]a=2;b=ka;", 1, 7);
        Due.wrong("[5]a=k;", 6);
        Due.wrong("[5]a=kk0;", 6);
        Due.wrong("[5]a=k k0;", 7);
        Due.wrong("[5]a=k+1;", 6);
        // The number looked up may be looked up again, by way of a rule.
        Due.value("[3,0,1,2]a=k1;b=ka;c=kb;", 2, 2);
    }

    private static void numbers() {
        for (int number : new int[] {0, 1, 9, 10, 99, 100, 999, 1000, 9998, 9999}) {
            StandardRules x = Due.having("[" + number + "]a=" + number + ";");
            Due.is("in the table", number, () -> x.table(0, 0));
            Due.is("in a sum", number, () -> x.value(0, 0, 0, 0, 0));
        }
        Due.wrong("[10000]a=1;", 5);
        Due.wrong("[1]a=10000;", 9);
        for (String inFront : new String[] {"00", "01", "09", "000", "0123"}) {
            Due.wrong("[" + inFront + "]a=1;", 2);
            Due.wrong("[1," + inFront + "]a=1;", 4);
            Due.wrong("[1]a=" + inFront + ";", 6);
            Due.wrong("[1]a=k" + inFront + ";", 7);
        }
    }

    private static void firstWrong() {
        // Two faults: the first counts, and what follows it does not.
        Due.wrong("[1]a=!;b=!;", 5);
        Due.wrong("[01]a=1;a=1;", 2);
        Due.wrong("[1]a=1;a=b;", 7);
        Due.wrong("[1]a=b;a=1;", 5);
        Due.wrong("[1]a=!", 5);
        Due.wrong("!", 0);
        // Behind all eight letters no byte but a blank can be right.
        String eight = "[1]a=1;b=1;c=1;d=1;e=1;f=1;g=1;h=1;";
        Due.right(eight);
        Due.wrong(eight + "a", 35);
        Due.wrong(eight + "i", 35);
        Due.wrong(eight + " =", 36);
    }

    /** Behind each of these prefixes every byte is tried: those told may go on, all others are wrong at themselves. */
    private static void everyByte() {
        String digits = "0123456789";
        goesOnWith("", "[");
        goesOnWith("[", digits);
        goesOnWith("[0", ",]");
        goesOnWith("[1", digits + ",]");
        goesOnWith("[1234", ",]");
        goesOnWith("[1 ", ",]");
        goesOnWith("[1,", digits);
        goesOnWith("[1,2,3,4,5,6,7,8", digits + "]");
        goesOnWith("[1]", "abcdefgh");
        goesOnWith("[1]a", "=");
        goesOnWith("[1]a=", digits + "wtlnk");
        goesOnWith("[1]a=k", digits + "wtln");
        goesOnWith("[1]a=0", "+-*/;");
        goesOnWith("[1]a=1", digits + "+-*/;");
        goesOnWith("[1]a=1234", "+-*/;");
        goesOnWith("[1]a=1 ", "+-*/;");
        goesOnWith("[1]a=w", "+-*/;");
        goesOnWith("[1]a=1+", digits + "wtlnk");
        goesOnWith("[1]a=1*", digits + "wtlnk");
        goesOnWith("[1]a=1*1*1", digits + "+-;");
        goesOnWith("[1]a=1+1+1+1+1", digits + "*/;");
        goesOnWith("[1]a=1+1+1+1+1*1*w", ";");
        goesOnWith("[1]a=1;", "bcdefgh");
        goesOnWith("[1]a=1;h=1;", "bcdefg");
        goesOnWith("[1]a=1;b=", digits + "wtlnka");
        goesOnWith("[1]a=1;b=k", digits + "wtlna");
        goesOnWith("[1]a=1;b=1;c=1;d=1;e=1;f=1;g=1;h=1;", "");
    }

    private static void goesOnWith(String prefix, String signs) {
        for (int sign = 0; sign < 256; sign++) {
            String text = prefix + (char) sign;
            if (signs.indexOf(sign) < 0 && sign != ' ') {
                Due.wrong(text, prefix.length());
            } else if (text.trim().endsWith(";")) {
                Due.right(text);
            } else {
                Due.wrong(text, text.length());
            }
        }
    }

    private static void missing() {
        String text = "[1,20]a=1*w;b=ka+n;";
        int[] rightLengths = {12, 19};
        for (int length = 0; length <= text.length(); length++) {
            if (length == rightLengths[0] || length == rightLengths[1]) {
                Due.right(text.substring(0, length));
            } else {
                Due.wrong(text.substring(0, length), length);
            }
        }
        Due.wrong(" ", 1);
        Due.wrong("[1]a=1  ", 8);
        Due.wrong("[1]" + " ".repeat(197), 200);
        // A tape that is full may end anywhere, within a number too.
        Due.wrong("[1]a=" + " ".repeat(194) + "1", 200);
        Due.wrong("[" + " ".repeat(198) + "1", 200);
        Due.wrong("[1]a=" + " ".repeat(194) + "k", 200);
        behindALongerText("[1", 2);
        behindALongerText("[1]a=1", 6);
        behindALongerText("[1]a=", 5);
        behindALongerText("", 0);
        behindALongerText("[1]a=1;", -1);
    }

    /** Nothing of a text that was longer, and is used up, stands behind a text. */
    private static void behindALongerText(String text, int place) {
        for (String longer : new String[] {"[1]a=1;b=1", "[111111111", ";;;;;;;;;;", "1111111111"}) {
            StandardRules x = new StandardRules();
            Due.write(x, longer);
            Due.is("the longer one", Due.MEANING, () -> x.edition(0));
            Due.write(x, text);
            Due.is(text + " behind " + longer, place < 0 ? "0" : Due.MEANING, () -> x.edition(0));
            Due.is("its place", place, () -> x.place());
        }
    }

    private static void lettersAtThemselves() {
        Due.wrong("[1]a=1;a=2;", 7);
        Due.wrong("[1]a=1;b=1;  b=2;", 13);
        Due.wrong("[1]a=1;b=1;a", 11);
        Due.wrong("[1]a=1+b;b=1;", 7);
        Due.wrong("[1]a=1;b=a*  c;", 13);
        Due.wrong("[1]a=1;b=kc;", 10);
        Due.wrong("[1]a=1;b=k b;", 11);
    }

    private static void fifthDigit() {
        Due.wrong("[12345]a=1;", 5);
        Due.wrong("[1,12345]a=1;", 7);
        Due.wrong("[1]a=12345;", 9);
        Due.wrong("[1]a=k12345;", 10);
        Due.wrong("[1]a=1*99999999;", 11);
        Due.wrong("[12345", 5);
    }

    private static void ninthNumber() {
        Due.wrong("[1,2,3,4,5,6,7,8,9]a=1;", 16);
        Due.wrong("[1,2,3,4,5,6,7,8 ,9]a=1;", 17);
        Due.wrong("[1,2,3,4,5,6,7,8,", 16);
        Due.wrong("[1,2,3,4,5,6,7,8,]a=1;", 16);
    }

    private static void atTheirSigns() {
        Due.wrong("[1]a=1+2+3+4+5+6;", 14);
        Due.wrong("[1]a=1+2+3+4+5-6;", 14);
        Due.wrong("[1]a=1+2+3+4+5  -6;", 16);
        Due.wrong("[1]a=1+2+3+4+5*6*7-8;", 18);
        Due.wrong("[1]a=1*2*3*4;", 10);
        Due.wrong("[1]a=1*2*3/4;", 10);
        Due.wrong("[1]a=1*2*3  /4;", 12);
        Due.wrong("[1]a=1+2+3+4+5*6*7*8;", 18);
        Due.wrong("[1]a=kw*kt*kl*kn;", 13);
        // The sign alone is enough.
        Due.wrong("[1]a=1+2+3+4+5+", 14);
        Due.wrong("[1]a=1*2*3*", 10);
    }
}
