import java.util.function.IntSupplier;

/** What the tests share: answers are written as texts, an exception as its name. */
final class Due {
    static final String INDEX = "IndexOutOfBoundsException";
    static final String TURN = "IllegalStateException";
    static final String RANGE = "IllegalArgumentException";
    static final String MEANING = "UnsupportedOperationException";

    private static int wrong = 0;
    private static String about = "";

    private Due() {
    }

    static String answer(IntSupplier call) {
        try {
            return Integer.toString(call.getAsInt());
        } catch (RuntimeException e) {
            return e.getClass().getSimpleName();
        }
    }

    static String answer(Runnable call) {
        return answer(() -> {
            call.run();
            return 0;
        });
    }

    static void is(String what, int want, IntSupplier call) {
        compare(what, Integer.toString(want), answer(call));
    }

    static void is(String what, String want, IntSupplier call) {
        compare(what, want, answer(call));
    }

    static void runs(String what, Runnable call) {
        compare(what, "0", answer(call));
    }

    static void refuses(String what, String want, Runnable call) {
        compare(what, want, answer(call));
    }

    static void compare(String what, String want, String got) {
        if (!want.equals(got)) {
            wrong++;
            System.out.println(about + what + ": answered " + got + ", due is " + want);
        }
    }

    /** The test of one sentence of the document: what is not as due in it is told with the sentence. */
    static void sentence(String words, Runnable test) {
        about = "\"" + words + "\" ";
        compare("to its end", "0", answer(test));
        about = "";
    }

    /** A text that becomes an edition of a new object. */
    static void right(String text) {
        StandardRules x = new StandardRules();
        write(x, text);
        is("edition of " + text, 0, () -> x.edition(0));
        is("place of " + text, -1, () -> x.place());
    }

    /** A text that is wrong at a place, on a new object. */
    static void wrong(String text, int place) {
        StandardRules x = new StandardRules();
        write(x, text);
        is("edition of " + text, MEANING, () -> x.edition(0));
        is("place of " + text, place, () -> x.place());
    }

    /** A rule's value for w, t, l, n = 1, 2, 3, 4. */
    static void value(String text, int rule, int want) {
        StandardRules x = having(text);
        is("value of " + text, want, () -> x.value(rule, 1, 2, 3, 4));
    }

    /** A rule that is open for w, t, l, n = 1, 2, 3, 4: in which rule, and why. */
    static void opens(String text, int rule, int where, int why) {
        StandardRules x = having(text);
        is("value of " + text, MEANING, () -> x.value(rule, 1, 2, 3, 4));
        is("rule of " + text, where, () -> x.open(0));
        is("why of " + text, why, () -> x.open(1));
    }

    /** The first open case of a rule. */
    static void example(String text, int rule, int most, int want) {
        StandardRules x = having(text);
        is("example of " + text + " to " + most, want, () -> x.example(rule, most));
    }

    /** Puts a text on the tape, eight bytes a call. */
    static void write(StandardRules rules, String text) {
        for (int from = 0; from < text.length(); from += 8) {
            String piece = text.substring(from, Math.min(text.length(), from + 8));
            long bytes = 0;
            for (int i = 0; i < piece.length(); i++) {
                bytes = bytes << 8 | piece.charAt(i) & 0xFF;
            }
            rules.sign(bytes, piece.length());
        }
    }

    /** A new object with one edition from day 0 on. */
    static StandardRules having(String text) {
        StandardRules rules = new StandardRules();
        write(rules, text);
        is("edition of " + text, 0, () -> rules.edition(0));
        return rules;
    }

    static void end() {
        System.out.println(wrong == 0 ? "all answers are as due" : wrong + " answers are not as due");
        if (wrong != 0) {
            System.exit(1);
        }
    }
}
