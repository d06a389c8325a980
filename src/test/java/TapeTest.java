/** Promises 2 and 3: the tape, and when it is used up. */
public final class TapeTest {
    public static void main(String[] args) {
        counts();
        ordersBytes();
        fills();
        isUsedUp();
        checksInOrder();
        Due.end();
    }

    private static void counts() {
        StandardRules x = new StandardRules();
        Due.is("n 0", Due.RANGE, () -> x.sign(1, 0));
        Due.is("n -1", Due.RANGE, () -> x.sign(1, -1));
        Due.is("n 9", Due.RANGE, () -> x.sign(1, 9));
        Due.is("n lowest", Due.RANGE, () -> x.sign(1, Integer.MIN_VALUE));
        Due.is("n highest", Due.RANGE, () -> x.sign(1, Integer.MAX_VALUE));
        int length = 0;
        for (int i = 1; i <= 8; i++) {
            int n = i;
            length += n;
            Due.is("sign of " + n, length, () -> x.sign(0, n));
        }
    }

    private static void ordersBytes() {
        StandardRules x = new StandardRules();
        // Bytes above the lowest n are left out.
        x.sign(0x7777777777777777L << 24 | 0x5B335D, 3);
        x.sign(0x20613D373B202020L, 8);
        Due.is("edition", 0, () -> x.edition(0));
        Due.is("number", 3, () -> x.table(0, 0));
        Due.is("a", 7, () -> x.value(0, 0, 0, 0, 0));
        StandardRules y = new StandardRules();
        y.sign(-1L, 1);
        Due.is("byte 255", Due.MEANING, () -> y.edition(0));
        Due.is("byte 255 is wrong", 0, () -> y.place());
        StandardRules z = Due.having("[1]a=1;");
        Due.write(z, "[1]a=1;\u00e1");
        Due.is("a byte above 127", Due.MEANING, () -> z.edition(0));
        Due.is("a byte above 127", 7, () -> z.place());
    }

    private static void fills() {
        StandardRules x = new StandardRules();
        String text = "[1]a=1" + " ".repeat(193) + ";";
        Due.write(x, text.substring(0, 192));
        Due.write(x, text.substring(192, 199));
        Due.is("two more than 199", Due.MEANING, () -> x.sign(0x3B3B, 2));
        Due.is("eight more than 199", Due.MEANING, () -> x.sign(0, 8));
        Due.is("range ahead of meaning", Due.RANGE, () -> x.sign(0, 9));
        Due.is("the last", 200, () -> x.sign(';', 1));
        Due.is("one more than 200", Due.MEANING, () -> x.sign(';', 1));
        Due.is("edition of 200 bytes", 0, () -> x.edition(0));
        Due.is("used up", 1, () -> x.sign('[', 1));
    }

    private static void isUsedUp() {
        StandardRules x = new StandardRules();
        Due.write(x, "[1]a=1;");
        Due.is("day -1", Due.RANGE, () -> x.edition(-1));
        Due.is("day 10000", Due.RANGE, () -> x.edition(10000));
        Due.is("place of a refused day", -1, () -> x.place());
        Due.is("kept by a refused day", 8, () -> x.sign(' ', 1));
        Due.is("edition 0", 0, () -> x.edition(9999));
        Due.is("empty now", Due.MEANING, () -> x.edition(0));
        Due.is("nothing there", 0, () -> x.place());
        Due.write(x, "[1]a=!");
        Due.is("wrong", Due.MEANING, () -> x.edition(0));
        Due.is("used up by a wrong text", 1, () -> x.sign('[', 1));
        Due.is("place stays", 5, () -> x.place());
        Due.is("no edition came of them", Due.INDEX, () -> x.table(1, -1));
    }

    private static void checksInOrder() {
        StandardRules x = new StandardRules();
        for (int i = 0; i < 6; i++) {
            int number = i;
            Due.write(x, "[" + i + "]a=" + i + ";");
            Due.is("edition", number, () -> x.edition(number));
        }
        Due.write(x, "[");
        Due.is("a seventh", Due.TURN, () -> x.edition(0));
        Due.is("a seventh with a wrong day", Due.TURN, () -> x.edition(-1));
        Due.is("place", -1, () -> x.place());
        Due.is("the tape is kept", 2, () -> x.sign('1', 1));
        Due.is("the sixth stands", 5, () -> x.table(5, 0));
    }
}
