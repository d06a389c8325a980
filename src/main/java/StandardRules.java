import java.util.Arrays;

/** Standards as rule texts by editions, with changes agreed by rank and cases that stay open. */
public final class StandardRules {
    private static final int NONE = -1;
    private static final int HIGHEST = 9999;
    private static final int MOST_BYTES = 200;
    private static final int MOST_SIGNED = 8;
    private static final int MOST_EDITIONS = 6;
    private static final int MOST_CHANGES = 20;
    private static final int MOST_NUMBERS = 8;
    private static final int MOST_DIGITS = 4;
    private static final int MOST_PRODUCTS = 5;
    private static final int MOST_FACTORS = 3;
    private static final int RULES = 8;
    private static final int SIZES = 4;
    private static final int CUSTOMERS = 10;
    private static final int HIGHEST_RANK = 9;
    private static final int HIGHEST_EXAMPLE_SIZE = 5;
    private static final int DIVIDED_BY_ZERO = 0;
    private static final int OUTSIDE_TABLE = 1;

    private final Reader reader = new Reader();
    private final Edition[] editions = new Edition[MOST_EDITIONS];
    private final Changes changes = new Changes();
    private final Reckoner reckoner = new Reckoner();
    private int editionCount = 0;
    private int wrongPlace = NONE;
    private int orderCustomer = 0;
    private int orderDay = 0;
    private int latestOpenRule = NONE;
    private int latestOpenReason = NONE;

    public StandardRules() {
        for (int i = 0; i < MOST_EDITIONS; i++) {
            editions[i] = new Edition();
        }
    }

    public int sign(long bytes, int n) throws IllegalArgumentException, UnsupportedOperationException {
        needRange(within(n, 1, MOST_SIGNED));
        needMeaning(reader.length + n <= MOST_BYTES);
        reader.append(bytes, n);
        return reader.length;
    }

    public int edition(int day) throws IllegalStateException, IllegalArgumentException, UnsupportedOperationException {
        needTurn(editionCount < MOST_EDITIONS);
        needRange(within(day, 0, HIGHEST));
        // The first free slot is read into; a wrong text leaves it free, so nothing of it can be seen.
        Edition slot = editions[editionCount];
        wrongPlace = reader.read(slot);
        needMeaning(wrongPlace == NONE);
        slot.day = day;
        editionCount++;
        return editionCount - 1;
    }

    public int place() {
        return wrongPlace;
    }

    public int change(int customer, int rule, int rank, int value)
            throws IndexOutOfBoundsException, IllegalStateException, IllegalArgumentException {
        needIndex(isCustomer(customer) && isRule(rule));
        needTurn(changes.count < MOST_CHANGES);
        needRange(within(rank, 0, HIGHEST_RANK) && within(value, -HIGHEST, HIGHEST));
        return changes.add(customer, rule, rank, value);
    }

    public void order(int customer, int day) throws IndexOutOfBoundsException, IllegalArgumentException {
        needIndex(isCustomer(customer));
        needRange(within(day, 0, HIGHEST));
        orderCustomer = customer;
        orderDay = day;
    }

    public int value(int rule, int w, int t, int l, int n) throws IndexOutOfBoundsException, IllegalStateException,
            IllegalArgumentException, UnsupportedOperationException {
        needIndex(isRule(rule));
        int edition = countingEdition();
        int change = changes.counting(orderCustomer, rule);
        needTurn(change != NONE || hasRule(edition, rule));
        needRange(isSize(w) && isSize(t) && isSize(l) && isSize(n));
        if (change != NONE) {
            return changes.numbers[change];
        }
        reckoner.setSizes(w, t, l, n);
        boolean isOpen = reckoner.findsOpen(editions[edition], changes, orderCustomer, rule);
        if (isOpen) {
            latestOpenRule = reckoner.openRules[rule];
            latestOpenReason = reckoner.openReasons[rule];
        }
        needMeaning(!isOpen);
        return reckoner.values[rule];
    }

    public int open(int what) throws IndexOutOfBoundsException, IllegalStateException {
        needIndex(within(what, 0, 1));
        needTurn(latestOpenRule != NONE);
        return what == 0 ? latestOpenRule : latestOpenReason;
    }

    public int example(int rule, int most)
            throws IndexOutOfBoundsException, IllegalStateException, IllegalArgumentException {
        needIndex(isRule(rule));
        int edition = countingEdition();
        int change = changes.counting(orderCustomer, rule);
        needTurn(change != NONE || hasRule(edition, rule));
        needRange(within(most, 0, HIGHEST_EXAMPLE_SIZE));
        return change != NONE ? NONE : firstOpenCase(editions[edition], rule, most);
    }

    public int told(int what) throws IndexOutOfBoundsException {
        needIndex(within(what, 0, 4));
        int edition = countingEdition();
        switch (what) {
            case 0:
                return edition;
            case 1:
                return edition == NONE ? 0 : editions[edition].ruleCount;
            case 2:
                return changes.changedRules(orderCustomer);
            case 3:
                return orderCustomer;
            default:
                return orderDay;
        }
    }

    public int agreed(int rule) throws IndexOutOfBoundsException {
        needIndex(isRule(rule));
        return changes.counting(orderCustomer, rule);
    }

    public int table(int edition, int i) throws IndexOutOfBoundsException {
        needIndex(within(edition, 0, editionCount - 1));
        Edition told = editions[edition];
        needIndex(within(i, -1, told.numberCount - 1));
        return i == -1 ? told.numberCount : told.numbers[i];
    }

    private int countingEdition() {
        int latest = NONE;
        for (int i = 0; i < editionCount; i++) {
            int day = editions[i].day;
            if (day <= orderDay && (latest == NONE || day >= editions[latest].day)) {
                latest = i;
            }
        }
        return latest;
    }

    private boolean hasRule(int edition, int rule) {
        return edition != NONE && editions[edition].firstParts[rule] != null;
    }

    private int firstOpenCase(Edition edition, int rule, int most) {
        for (int w = 0; w <= most; w++) {
            for (int t = 0; t <= most; t++) {
                for (int l = 0; l <= most; l++) {
                    for (int n = 0; n <= most; n++) {
                        reckoner.setSizes(w, t, l, n);
                        if (reckoner.findsOpen(edition, changes, orderCustomer, rule)) {
                            return w * 1000 + t * 100 + l * 10 + n;
                        }
                    }
                }
            }
        }
        return NONE;
    }

    private static boolean within(int number, int lowest, int highest) {
        return number >= lowest && number <= highest;
    }

    private static boolean isRule(int rule) {
        return within(rule, 0, RULES - 1);
    }

    private static boolean isCustomer(int customer) {
        return within(customer, 0, CUSTOMERS - 1);
    }

    private static boolean isSize(int size) {
        return within(size, 0, HIGHEST);
    }

    private static void needIndex(boolean holds) {
        if (!holds) {
            throw new IndexOutOfBoundsException("no such index");
        }
    }

    private static void needTurn(boolean holds) {
        if (!holds) {
            throw new IllegalStateException("out of turn");
        }
    }

    private static void needRange(boolean holds) {
        if (!holds) {
            throw new IllegalArgumentException("out of range");
        }
    }

    private static void needMeaning(boolean holds) {
        if (!holds) {
            throw new UnsupportedOperationException("without meaning");
        }
    }

    /** A factor of a rule, with the sign in front of it; + and - begin a product. */
    private static final class Part {
        private static final int NUMBER = 0;
        private static final int SIZE = 1;
        private static final int RULE = 2;

        private final int sign;
        private final boolean looksUp;
        private final int kind;
        private final int operand;
        private Part next = null;

        Part(int sign, boolean looksUp, int kind, int operand) {
            this.sign = sign;
            this.looksUp = looksUp;
            this.kind = kind;
            this.operand = operand;
        }
    }

    /** A text that has been read: its table, and its rules in the text's order. */
    private static final class Edition {
        private int day = 0;
        private int numberCount = 0;
        private int ruleCount = 0;
        private final int[] numbers = new int[MOST_NUMBERS];
        private final int[] letters = new int[RULES];
        private final Part[] firstParts = new Part[RULES];

        void clear() {
            numberCount = 0;
            ruleCount = 0;
            for (int i = 0; i < RULES; i++) {
                firstParts[i] = null;
            }
        }

        void addNumber(int number) {
            if (numberCount < MOST_NUMBERS) {
                numbers[numberCount] = number;
                numberCount++;
            }
        }

        void addRule(int rule, Part first) {
            if (ruleCount < RULES) {
                letters[ruleCount] = rule;
                firstParts[rule] = first;
                ruleCount++;
            }
        }
    }

    /**
     * The tape, and the reading of it. Every reading method answers whether the text may still be right;
     * if not, it leaves the place at the byte that is wrong, so that no place has to be carried along.
     */
    private static final class Reader {
        private static final int END = -1;

        private final int[] tape = new int[MOST_BYTES];
        private int length = 0;
        private int at = 0;
        private int number = 0;
        private Part first = null;
        private Part last = null;

        void append(long bytes, int n) {
            for (int i = n - 1; i >= 0 && length < MOST_BYTES; i--) {
                tape[length] = (int) (bytes >>> (8 * i)) & 0xFF;
                length++;
            }
        }

        /** Uses the tape up for an edition; answers where it is wrong, or NONE. */
        int read(Edition into) {
            into.clear();
            at = 0;
            boolean right = readTable(into) && readRule(into);
            for (int rules = 1; right && rules < RULES && next() != END; rules++) {
                right = readRule(into);
            }
            right = right && next() == END;
            length = 0;
            return right ? NONE : at;
        }

        private boolean readTable(Edition into) {
            boolean right = take('[') && readNumber();
            into.addNumber(number);
            for (int numbers = 1; right && numbers < MOST_NUMBERS && next() == ','; numbers++) {
                at++;
                right = readNumber();
                into.addNumber(number);
            }
            return right && take(']');
        }

        private boolean readRule(Edition into) {
            int rule = next() - 'a';
            if (!isRule(rule) || into.firstParts[rule] != null) {
                return false;
            }
            at++;
            first = null;
            last = null;
            if (!take('=') || !readSum(into)) {
                return false;
            }
            // Only now does the rule stand ahead: its own sum may not use it.
            into.addRule(rule, first);
            return take(';');
        }

        /** One loop for products and factors; a sign too many is left to the caller, who wants a semicolon there. */
        private boolean readSum(Edition into) {
            int products = 1;
            int factors = 1;
            boolean right = readFactor(into, '+');
            for (int parts = 1; right && parts < MOST_PRODUCTS * MOST_FACTORS; parts++) {
                int sign = next();
                if ((sign == '*' || sign == '/') && factors < MOST_FACTORS) {
                    factors++;
                } else if ((sign == '+' || sign == '-') && products < MOST_PRODUCTS) {
                    products++;
                    factors = 1;
                } else {
                    return true;
                }
                at++;
                right = readFactor(into, sign);
            }
            return right;
        }

        private boolean readFactor(Edition into, int sign) {
            boolean looksUp = take('k');
            int letter = next();
            if (isDigit(letter)) {
                boolean right = readNumber();
                addPart(new Part(sign, looksUp, Part.NUMBER, number));
                return right;
            }
            int size = sizeOf(letter);
            if (size != NONE) {
                at++;
                addPart(new Part(sign, looksUp, Part.SIZE, size));
                return true;
            }
            int rule = letter - 'a';
            if (!isRule(rule) || into.firstParts[rule] == null) {
                return false;
            }
            at++;
            addPart(new Part(sign, looksUp, Part.RULE, rule));
            return true;
        }

        private void addPart(Part part) {
            if (last == null) {
                first = part;
            } else {
                last.next = part;
            }
            last = part;
        }

        private boolean readNumber() {
            int digit = next();
            if (!isDigit(digit)) {
                return false;
            }
            number = digit - '0';
            at++;
            // Behind a 0 in front no digit may come, just as none may come behind the fourth.
            for (int digits = 1; digits < MOST_DIGITS && number != 0 && isDigit(here()); digits++) {
                number = number * 10 + here() - '0';
                at++;
            }
            return !isDigit(here());
        }

        private boolean take(int sign) {
            boolean isThere = next() == sign;
            if (isThere) {
                at++;
            }
            return isThere;
        }

        /** The byte at the next place that is not blank. */
        private int next() {
            while (at < length && tape[at] == ' ') {
                at++;
            }
            return at < length ? tape[at] : END;
        }

        private int here() {
            return at < length ? tape[at] : END;
        }

        private static boolean isDigit(int letter) {
            return letter >= '0' && letter <= '9';
        }

        private static int sizeOf(int letter) {
            switch (letter) {
                case 'w':
                    return 0;
                case 't':
                    return 1;
                case 'l':
                    return 2;
                case 'n':
                    return 3;
                default:
                    return NONE;
            }
        }
    }

    /** The changes, and which of them counts for each customer and rule. */
    private static final class Changes {
        private final int[] ranks = new int[MOST_CHANGES];
        private final int[] numbers = new int[MOST_CHANGES];
        private final int[] countingOnes = new int[CUSTOMERS * RULES];
        private int count = 0;

        Changes() {
            Arrays.fill(countingOnes, NONE);
        }

        int add(int customer, int rule, int rank, int number) {
            int added = count;
            ranks[added] = rank;
            numbers[added] = number;
            count++;
            int earlier = counting(customer, rule);
            if (earlier == NONE || rank >= ranks[earlier]) {
                countingOnes[customer * RULES + rule] = added;
            }
            return added;
        }

        int counting(int customer, int rule) {
            return countingOnes[customer * RULES + rule];
        }

        int changedRules(int customer) {
            int changed = 0;
            for (int rule = 0; rule < RULES; rule++) {
                if (counting(customer, rule) != NONE) {
                    changed++;
                }
            }
            return changed;
        }
    }

    /**
     * Reckons rules for a case. The rules are gone through in the text's order, each once: whatever a rule
     * uses stands ahead of it, and a rule that is used often is not reckoned often.
     */
    private static final class Reckoner {
        private final int[] sizes = new int[SIZES];
        private final int[] values = new int[RULES];
        private final int[] openRules = new int[RULES];
        private final int[] openReasons = new int[RULES];

        void setSizes(int w, int t, int l, int n) {
            sizes[0] = w;
            sizes[1] = t;
            sizes[2] = l;
            sizes[3] = n;
        }

        /** Reckons up to a rule; answers whether that one is open. */
        boolean findsOpen(Edition edition, Changes changes, int customer, int rule) {
            for (int i = 0; i < edition.ruleCount; i++) {
                int letter = edition.letters[i];
                int change = changes.counting(customer, letter);
                openRules[letter] = NONE;
                values[letter] = change != NONE ? changes.numbers[change] : sumOf(edition, letter);
                if (letter == rule) {
                    break;
                }
            }
            return openRules[rule] != NONE;
        }

        private int sumOf(Edition edition, int rule) {
            int sum = 0;
            int sign = '+';
            int product = 0;
            for (Part part = edition.firstParts[rule]; part != null; part = part.next) {
                int factor = factorOf(edition, rule, part);
                if (part.sign == '/' && factor == 0 && openRules[rule] == NONE) {
                    markOpen(rule, rule, DIVIDED_BY_ZERO);
                }
                if (openRules[rule] != NONE) {
                    return 0;
                }
                if (part.sign == '*') {
                    product *= factor;
                } else if (part.sign == '/') {
                    product /= factor;
                } else {
                    sum = joined(sum, sign, product);
                    sign = part.sign;
                    product = factor;
                }
            }
            return joined(sum, sign, product);
        }

        private static int joined(int sum, int sign, int product) {
            return sign == '-' ? sum - product : sum + product;
        }

        private int factorOf(Edition edition, int rule, Part part) {
            int plain = part.operand;
            if (part.kind == Part.SIZE) {
                plain = sizes[part.operand];
            } else if (part.kind == Part.RULE) {
                plain = values[part.operand];
                if (openRules[part.operand] != NONE) {
                    markOpen(rule, openRules[part.operand], openReasons[part.operand]);
                    return 0;
                }
            }
            if (!part.looksUp) {
                return plain;
            }
            if (!within(plain, 0, edition.numberCount - 1)) {
                markOpen(rule, rule, OUTSIDE_TABLE);
                return 0;
            }
            return edition.numbers[plain];
        }

        private void markOpen(int rule, int openRule, int reason) {
            openRules[rule] = openRule;
            openReasons[rule] = reason;
        }
    }
}
