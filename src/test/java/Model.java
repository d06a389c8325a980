import java.util.ArrayList;
import java.util.List;
import java.util.regex.Matcher;
import java.util.regex.Pattern;

/**
 * The document once more, in another way than the class: a text is tried by a pattern, prefix by prefix,
 * and rules are reckoned by recursion straight from their text.
 */
final class Model {
    private static final String NUMBER = "(?:0|[1-9][0-9]{0,3})";
    private static final String FACTOR = "(?:k *)?(?:" + NUMBER + "|[wtlna-h]) *";
    private static final String PRODUCT = FACTOR + "(?:[*/] *" + FACTOR + "){0,2}";
    private static final String RULE = "[a-h] *= *" + PRODUCT + "(?:[+-] *" + PRODUCT + "){0,4}; *";
    private static final Pattern TEXT =
            Pattern.compile(" *\\[ *" + NUMBER + " *(?:, *" + NUMBER + " *){0,7}\\] *(?:" + RULE + ")+");

    private record Edition(int day, String text) {
    }

    private record Change(int customer, int rule, int rank, int value) {
    }

    private static final class Open extends RuntimeException {
        private static final long serialVersionUID = 1;
        private final int rule;
        private final int why;

        Open(int rule, int why) {
            this.rule = rule;
            this.why = why;
        }
    }

    private final List<Edition> editions = new ArrayList<>();
    private final List<Change> changes = new ArrayList<>();
    private String tape = "";
    private int place = -1;
    private int customer = 0;
    private int day = 0;
    private Open latest = null;

    int sign(long bytes, int n) {
        range(n >= 1 && n <= 8);
        meaning(tape.length() + n <= 200);
        for (int i = n - 1; i >= 0; i--) {
            tape += (char) (bytes >> 8 * i & 255);
        }
        return tape.length();
    }

    int edition(int from) {
        turn(editions.size() < 6);
        range(from >= 0 && from <= 9999);
        String text = tape;
        tape = "";
        place = wrongPlace(text);
        meaning(place < 0);
        editions.add(new Edition(from, text.replace(" ", "")));
        return editions.size() - 1;
    }

    int place() {
        return place;
    }

    int change(int who, int rule, int rank, int value) {
        index(who >= 0 && who <= 9 && rule >= 0 && rule <= 7);
        turn(changes.size() < 20);
        range(rank >= 0 && rank <= 9 && value >= -9999 && value <= 9999);
        changes.add(new Change(who, rule, rank, value));
        return changes.size() - 1;
    }

    void order(int who, int when) {
        index(who >= 0 && who <= 9);
        range(when >= 0 && when <= 9999);
        customer = who;
        day = when;
    }

    int value(int rule, int w, int t, int l, int n) {
        known(rule);
        for (int size : new int[] {w, t, l, n}) {
            range(size >= 0 && size <= 9999);
        }
        try {
            return reckoned(rule, w, t, l, n);
        } catch (Open open) {
            latest = open;
            throw new UnsupportedOperationException();
        }
    }

    int open(int what) {
        index(what == 0 || what == 1);
        turn(latest != null);
        return what == 0 ? latest.rule : latest.why;
    }

    int example(int rule, int most) {
        known(rule);
        range(most >= 0 && most <= 5);
        for (int digits = 0; digits <= 5555; digits++) {
            int[] s = {digits / 1000, digits / 100 % 10, digits / 10 % 10, digits % 10};
            if (s[0] > most || s[1] > most || s[2] > most || s[3] > most) {
                continue;
            }
            try {
                reckoned(rule, s);
            } catch (Open open) {
                return digits;
            }
        }
        return -1;
    }

    int told(int what) {
        index(what >= 0 && what <= 4);
        int changed = 0;
        for (int rule = 0; rule < 8; rule++) {
            changed += agreed(rule) >= 0 ? 1 : 0;
        }
        int rules = counting() < 0 ? 0 : text().split("=", -1).length - 1;
        return new int[] {counting(), rules, changed, customer, day}[what];
    }

    int agreed(int rule) {
        index(rule >= 0 && rule <= 7);
        for (int rank = 9; rank >= 0; rank--) {
            for (int i = changes.size() - 1; i >= 0; i--) {
                Change change = changes.get(i);
                if (change.customer == customer && change.rule == rule && change.rank == rank) {
                    return i;
                }
            }
        }
        return -1;
    }

    int table(int edition, int i) {
        index(edition >= 0 && edition < editions.size());
        int[] numbers = numbers(editions.get(edition).text);
        index(i >= -1 && i < numbers.length);
        return i < 0 ? numbers.length : numbers[i];
    }

    static int wrongPlace(String text) {
        for (int i = 1; i <= text.length(); i++) {
            if (!mayGoOn(text.substring(0, i))) {
                return i - 1;
            }
        }
        return TEXT.matcher(text).matches() ? -1 : text.length();
    }

    private static boolean mayGoOn(String prefix) {
        Matcher matcher = TEXT.matcher(prefix);
        return (matcher.matches() || matcher.hitEnd()) && lettersStandAhead(prefix.replace(" ", ""));
    }

    private static boolean lettersStandAhead(String prefix) {
        String ahead = "";
        for (String rule : prefix.substring(prefix.indexOf(']') + 1).split(";")) {
            for (int i = 0; i < rule.length(); i++) {
                char letter = rule.charAt(i);
                if (letter >= 'a' && letter <= 'h' && ahead.indexOf(letter) >= 0 == (i == 0)) {
                    return false;
                }
            }
            ahead += rule.isEmpty() ? "" : rule.substring(0, 1);
        }
        return true;
    }

    private void known(int rule) {
        index(rule >= 0 && rule <= 7);
        turn(agreed(rule) >= 0 || counting() >= 0 && ruleText(rule) != null);
    }

    private int counting() {
        for (int from = day; from >= 0; from--) {
            for (int i = editions.size() - 1; i >= 0; i--) {
                if (editions.get(i).day == from) {
                    return i;
                }
            }
        }
        return -1;
    }

    private String text() {
        return editions.get(counting()).text;
    }

    private String ruleText(int rule) {
        Matcher matcher = Pattern.compile("[\\];]" + (char) ('a' + rule) + "=([^;]*);").matcher(text());
        return matcher.find() ? matcher.group(1) : null;
    }

    private static int[] numbers(String text) {
        String[] parts = text.substring(1, text.indexOf(']')).split(",");
        int[] numbers = new int[parts.length];
        for (int i = 0; i < parts.length; i++) {
            numbers[i] = Integer.parseInt(parts[i]);
        }
        return numbers;
    }

    private int reckoned(int rule, int... sizes) {
        int change = agreed(rule);
        if (change >= 0) {
            return changes.get(change).value;
        }
        int sum = 0;
        for (String signed : ("+" + ruleText(rule)).split("(?=[+-])")) {
            int product = product(rule, signed.substring(1), sizes);
            sum = signed.charAt(0) == '+' ? sum + product : sum - product;
        }
        return sum;
    }

    private int product(int rule, String text, int[] sizes) {
        int product = 1;
        for (String signed : ("*" + text).split("(?=[*/])")) {
            int factor = factor(rule, signed.substring(1), sizes);
            if (signed.charAt(0) == '/' && factor == 0) {
                throw new Open(rule, 0);
            }
            product = signed.charAt(0) == '*' ? product * factor : product / factor;
        }
        return product;
    }

    private int factor(int rule, String text, int[] sizes) {
        char letter = text.charAt(0);
        if (letter == 'k') {
            int at = factor(rule, text.substring(1), sizes);
            int[] numbers = numbers(text());
            if (at < 0 || at >= numbers.length) {
                throw new Open(rule, 1);
            }
            return numbers[at];
        }
        if (letter >= 'a' && letter <= 'h') {
            return reckoned(letter - 'a', sizes);
        }
        int size = "wtln".indexOf(letter);
        return size >= 0 ? sizes[size] : Integer.parseInt(text);
    }

    private static void index(boolean holds) {
        if (!holds) {
            throw new IndexOutOfBoundsException();
        }
    }

    private static void turn(boolean holds) {
        if (!holds) {
            throw new IllegalStateException();
        }
    }

    private static void range(boolean holds) {
        if (!holds) {
            throw new IllegalArgumentException();
        }
    }

    private static void meaning(boolean holds) {
        if (!holds) {
            throw new UnsupportedOperationException();
        }
    }
}
