import java.util.Random;

/** All promises: chance runs of calls, the same each time, against the model of the tests. */
public final class ModelTest {
    private static final String SIGNS = "[],=;+-*/0123456789wtlnkabcdefgh  ix";

    private final Random random;
    private final StandardRules rules = new StandardRules();
    private final Model model = new Model();
    private final String name;
    private int[] args = new int[5];

    private ModelTest(int seed) {
        random = new Random(seed);
        name = "run " + seed;
    }

    public static void main(String[] args) {
        for (int seed = 0; seed < 400; seed++) {
            ModelTest run = new ModelTest(seed);
            for (int i = 0; i < 60; i++) {
                run.callOne();
            }
        }
        Due.end();
    }

    private void callOne() {
        for (int i = 0; i < args.length; i++) {
            args[i] = chance(20) ? near(9999) : random.nextInt(7);
        }
        int[] a = args;
        switch (random.nextInt(12)) {
            case 0, 1, 2 -> tellEdition();
            case 3 -> {
                int value = chance(3) ? near(9999) : random.nextInt(9) - 4;
                int customer = near(3);
                int rule = near(7);
                int rank = chance(8) ? near(9) : random.nextInt(4);
                same("change", () -> rules.change(customer, rule, rank, value),
                        () -> model.change(customer, rule, rank, value));
            }
            case 4 -> {
                int customer = near(3);
                Due.compare(name + " order", Due.answer((Runnable) () -> model.order(customer, a[0])),
                        Due.answer((Runnable) () -> rules.order(customer, a[0])));
            }
            case 5 -> {
                int rule = near(7);
                int most = chance(6) ? near(5) : random.nextInt(4);
                same("example", () -> rules.example(rule, most), () -> model.example(rule, most));
            }
            case 6 -> {
                int n = near(8);
                long bytes = random.nextLong();
                same("sign", () -> rules.sign(bytes, n), () -> model.sign(bytes, n));
            }
            case 7 -> {
                int edition = near(5);
                int i = near(8);
                same("table", () -> rules.table(edition, i), () -> model.table(edition, i));
            }
            default -> {
                int rule = near(7);
                same("value", () -> rules.value(rule, a[0], a[1], a[2], a[3]),
                        () -> model.value(rule, a[0], a[1], a[2], a[3]));
                same("agreed", () -> rules.agreed(rule), () -> model.agreed(rule));
            }
        }
        for (int i = -1; i <= 5; i++) {
            int what = i;
            same("told " + i, () -> rules.told(what), () -> model.told(what));
            same("open " + i, () -> rules.open(what), () -> model.open(what));
        }
        same("place", rules::place, model::place);
    }

    private void tellEdition() {
        String text = text();
        if (chance(2)) {
            int at = random.nextInt(text.length());
            String sign = chance(4) ? "" : "" + SIGNS.charAt(random.nextInt(SIGNS.length()));
            text = text.substring(0, at) + sign + text.substring(at + random.nextInt(2));
        }
        if (chance(8)) {
            text = text.substring(0, random.nextInt(text.length()));
        }
        for (int from = 0; from < text.length(); from += 8) {
            int n = Math.min(8, text.length() - from);
            long bytes = 0;
            for (int i = 0; i < n; i++) {
                bytes = bytes << 8 | text.charAt(from + i);
            }
            long told = bytes;
            same("sign", () -> rules.sign(told, n), () -> model.sign(told, n));
        }
        int day = chance(5) ? near(9999) : random.nextInt(7);
        same("edition of " + text, () -> rules.edition(day), () -> model.edition(day));
    }

    private String text() {
        StringBuilder text = new StringBuilder("[").append(random.nextInt(5));
        int numbers = chance(6) ? 9 : random.nextInt(5);
        for (int i = 1; i < numbers; i++) {
            text.append(',').append(random.nextInt(chance(3) ? 11000 : 5));
        }
        text.append(']');
        String letters = "";
        int count = 1 + random.nextInt(8);
        for (int i = 0; i < count; i++) {
            char letter = (char) ('a' + random.nextInt(8));
            if (letters.indexOf(letter) >= 0 && !chance(30)) {
                continue;
            }
            text.append(letter).append('=').append(sum(letters)).append(';');
            letters += letter;
        }
        return chance(3) ? blanked(text.toString()) : text.toString();
    }

    private String sum(String letters) {
        StringBuilder sum = new StringBuilder(factor(letters));
        int count = chance(10) ? 7 : random.nextInt(4);
        int inRow = 1;
        for (int i = 0; i < count; i++) {
            boolean goesOn = chance(2) && (inRow < 3 || chance(10));
            inRow = goesOn ? inRow + 1 : 1;
            sum.append((goesOn ? "*/" : "+-").charAt(random.nextInt(2))).append(factor(letters));
        }
        return sum.toString();
    }

    private String factor(String letters) {
        String k = chance(5) ? "k" : "";
        if (!letters.isEmpty() && chance(2)) {
            return k + letters.charAt(random.nextInt(letters.length()));
        }
        return k + (chance(2) ? "" + "wtln".charAt(random.nextInt(4)) : "" + random.nextInt(chance(4) ? 11000 : 4));
    }

    private String blanked(String text) {
        StringBuilder blanked = new StringBuilder();
        for (int i = 0; i < text.length(); i++) {
            boolean inNumber = i > 0 && Character.isDigit(text.charAt(i)) && Character.isDigit(text.charAt(i - 1));
            blanked.append(chance(3) && (!inNumber || chance(20)) ? " " : "").append(text.charAt(i));
        }
        return blanked.append(chance(2) ? " " : "").toString();
    }

    private boolean chance(int oneOf) {
        return random.nextInt(oneOf) == 0;
    }

    /** Mostly 0 to highest, now and then just outside. */
    private int near(int highest) {
        return chance(12) ? (chance(2) ? -1 - random.nextInt(2) : highest + 1) : random.nextInt(highest + 1);
    }

    private void same(String what, java.util.function.IntSupplier got, java.util.function.IntSupplier want) {
        Due.compare(name + " " + what, Due.answer(want), Due.answer(got));
    }
}
