import java.util.function.IntSupplier;

/** What the tests share: answers are written as texts, an exception as its name. */
final class Due {
    static final String INDEX = "IndexOutOfBoundsException";
    static final String TURN = "IllegalStateException";
    static final String RANGE = "IllegalArgumentException";
    static final String MEANING = "UnsupportedOperationException";

    private static int wrong = 0;

    private Due() {
    }

    static String answer(IntSupplier call) {
        try {
            return Integer.toString(call.getAsInt());
        } catch (RuntimeException e) {
            return e.getClass().getSimpleName();
        }
    }

    static String answer(Runnable call) {
        return answer(() -> {
            call.run();
            return 0;
        });
    }

    static void is(String what, int want, IntSupplier call) {
        compare(what, Integer.toString(want), answer(call));
    }

    static void is(String what, String want, IntSupplier call) {
        compare(what, want, answer(call));
    }

    static void runs(String what, Runnable call) {
        compare(what, "0", answer(call));
    }

    static void refuses(String what, String want, Runnable call) {
        compare(what, want, answer(call));
    }

    static void compare(String what, String want, String got) {
        if (!want.equals(got)) {
            wrong++;
            System.out.println(what + ": answered " + got + ", due is " + want);
        }
    }

    /** Puts a text on the tape, eight bytes a call. */
    static void write(StandardRules rules, String text) {
        for (int from = 0; from < text.length(); from += 8) {
            String piece = text.substring(from, Math.min(text.length(), from + 8));
            long bytes = 0;
            for (int i = 0; i < piece.length(); i++) {
                bytes = bytes << 8 | piece.charAt(i) & 0xFF;
            }
            rules.sign(bytes, piece.length());
        }
    }

    /** A new object with one edition from day 0 on. */
    static StandardRules having(String text) {
        StandardRules rules = new StandardRules();
        write(rules, text);
        is("edition of " + text, 0, () -> rules.edition(0));
        return rules;
    }

    static void end() {
        System.out.println(wrong == 0 ? "all answers are as due" : wrong + " answers are not as due");
        if (wrong != 0) {
            System.exit(1);
        }
    }
}
