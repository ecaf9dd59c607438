import java.util.Arrays;

/**
 * Hazards by rule texts: which classes a load is of, and which fact is lacking where that is open.
 * ../shared/DOC.md says what each call promises; the names here are that document's terms.
 */
public final class HazardRules {
    public static final int NONE = -1;

    private static final int MOST_BYTES = 3000;
    // A word takes one byte at least, and one more parts it from the next.
    private static final int MOST_WORDS = 1500;
    private static final int MOST_DIGITS = 9;
    private static final int MOST_NUMBER = 999999999;
    private static final int MOST_RULES = 60;
    private static final int MOST_WEIGHT = 1000;
    private static final int MOST_DIVISOR = 999;
    private static final long MOST_VALUE = 1000000L;

    private static final int CLASSES = 20;
    private static final int PARTS = 16;
    private static final int TESTS = 8;
    private static final int RESULTS = 10;

    private static final int BLANK = 32;
    private static final int LINE_END = 10;

    private static final int KIND_TEST = 0;
    private static final int KIND_HOLDS = 1;
    private static final int KIND_SUM = 2;

    private static final int LACKS_RESULT = 100;
    private static final int LACKS_DIVISOR = 200;
    private static final int LACKS_CLASS = 300;

    // A verdict of 0 or more says OPEN and tells what is lacking, so that both travel in one number.
    private static final int SO = -2;
    private static final int NOT_SO = -3;
    private static final int PASSED_OVER = -4;
    private static final int UNSEEN = -5;

    private static final Key[] KEYS = Key.values();

    private final byte[] incoming = new byte[MOST_BYTES];
    private int incomingSize = 0;
    private final byte[] kept = new byte[MOST_BYTES];
    private int keptSize = 0;
    private final Words words = new Words();
    private final Facts facts = new Facts();
    private Book book = new Book();

    public HazardRules() {
    }

    public boolean unit(int u) {
        if (u < 0 || u > 255 || incomingSize >= incoming.length) {
            return false;
        }
        incoming[incomingSize] = (byte) u;
        incomingSize++;
        return true;
    }

    public int read() {
        words.split(incoming, incomingSize);
        Reader reader = new Reader(words);
        boolean fits = reader.readText();
        if (fits) {
            keepText();
            book = reader.book;
        }
        incomingSize = 0;
        return fits ? book.ruleCount : -1 - words.at;
    }

    public int edition(long day) {
        return book.actingOn(day);
    }

    public boolean part(int part, long low, long high) {
        return facts.setSpan(part, low, high);
    }

    public boolean test(int kind, int result) {
        return facts.setResult(kind, result);
    }

    public void clearParts() {
        facts.forget();
    }

    public boolean way(boolean strict) {
        boolean before = facts.strict;
        facts.strict = strict;
        return before;
    }

    public int run(long day) {
        return book.lookAt(day, facts);
    }

    public int walk(long day) {
        words.split(kept, keptSize);
        Reader reader = new Reader(words);
        if (reader.readText()) {
            book = reader.book;
        }
        return book.lookAt(day, facts);
    }

    public int cls(int k) {
        int seen = 0;
        for (int c = 0; c < CLASSES; c++) {
            if (book.isHeld(c)) {
                if (seen == k) {
                    return c;
                }
                seen++;
            }
        }
        return NONE;
    }

    public int mark(int k) {
        int seen = 0;
        for (Rule rule = book.first; rule != null; rule = rule.next) {
            if (book.isFirstToHold(rule)) {
                if (seen == k) {
                    return rule.cls;
                }
                seen++;
            }
        }
        return NONE;
    }

    public int moving() {
        return cls(0);
    }

    public int open(int k, int what) {
        Rule rule = book.openRule(k);
        if (rule == null) {
            return NONE;
        }
        switch (what) {
            case 0:
                return rule.line;
            case 1:
                return rule.cls;
            case 2:
                return rule.verdict;
            default:
                return NONE;
        }
    }

    public int missing(int k) {
        int seen = 0;
        for (Rule rule = book.first; rule != null; rule = rule.next) {
            if (book.isFirstToLack(rule)) {
                if (seen == k) {
                    return rule.verdict;
                }
                seen++;
            }
        }
        return NONE;
    }

    public int explain(int cls, int k, int what) {
        Rule rule = book.heldBy(cls, k);
        if (rule == null) {
            return NONE;
        }
        switch (what) {
            case 0:
                return rule.line;
            case 1:
                return rule.itemCount;
            case 2:
                return rule.word;
            default:
                return NONE;
        }
    }

    public long limit(int cls) {
        long least = NONE;
        for (Rule rule = book.first; rule != null; rule = rule.next) {
            if (rule.edition == book.acted && rule.cls == cls) {
                int number = rule.leastOver();
                if (number != NONE && (least == NONE || number < least)) {
                    least = number;
                }
            }
        }
        return least;
    }

    public long sum(int rule, int end, int part) {
        if (end != 0 && end != 1) {
            return 0;
        }
        Rule asked = book.ruleAt(rule);
        Item item = asked == null ? null : asked.firstSum();
        if (item == null || facts.lackOf(item) != NONE) {
            return 0;
        }
        return facts.sumAt(item, end == 1, part);
    }

    public int table(int t, int k) throws ArrayIndexOutOfBoundsException {
        Rule rule = book.ruleAt(t);
        Item item = rule == null ? null : rule.itemAt(k);
        if (item == null) {
            throw new ArrayIndexOutOfBoundsException("no such item");
        }
        return item.kind;
    }

    public int write(int i) {
        if (i < 0 || i >= keptSize || i >= kept.length) {
            return NONE;
        }
        return kept[i] & 255;
    }

    private void keepText() {
        keptSize = 0;
        boolean parted = false;
        for (int i = 0; i < incomingSize && i < incoming.length; i++) {
            if (isGap(incoming[i])) {
                parted = keptSize > 0;
            } else {
                if (parted) {
                    keepByte((byte) BLANK);
                    parted = false;
                }
                keepByte(incoming[i]);
            }
        }
    }

    private void keepByte(byte b) {
        if (keptSize >= 0 && keptSize < kept.length) {
            kept[keptSize] = b;
            keptSize++;
        }
    }

    private static boolean isGap(byte b) {
        return b == BLANK || b == LINE_END;
    }

    /** The words that mean something; codes are below NONE, so that numbers can stand in the same row. */
    private enum Key {
        FROM(-2, "from"), CLASS(-3, "class"), WHEN(-4, "when"), AND(-5, "and"), END(-6, "end"),
        TEST(-7, "test"), IS(-8, "is"), NOT(-9, "not"), HOLDS(-10, "holds"), SUM(-11, "sum"),
        OVER(-12, "over"), UNDER(-13, "under"), PLUS(-14, "plus"), MINUS(-15, "minus"),
        OF(-16, "of"), CUT(-17, "cut"), BY(-18, "by");

        final int code;
        final String letters;

        Key(int code, String letters) {
            this.code = code;
            this.letters = letters;
        }
    }

    /** The words of a text, each as one number, and the place up to which they have been taken. */
    private static final class Words {
        private final int[] codes = new int[MOST_WORDS];
        private int count = 0;
        int at = 0;

        void split(byte[] bytes, int size) {
            int end = Math.min(size, bytes.length);
            count = 0;
            at = 0;
            int start = 0;
            for (int i = 0; i <= end; i++) {
                if (i == end || isGap(bytes[i])) {
                    if (i > start && count < codes.length) {
                        codes[count] = codeOf(bytes, start, i);
                        count++;
                    }
                    start = i + 1;
                }
            }
        }

        boolean ended() {
            return at >= count;
        }

        boolean take(Key key) {
            if (at < 0 || at >= count || at >= codes.length || codes[at] != key.code) {
                return false;
            }
            at++;
            return true;
        }

        int takeNumber(int least, int most) {
            if (at < 0 || at >= count || at >= codes.length) {
                return NONE;
            }
            int number = codes[at];
            if (number < least || number > most) {
                return NONE;
            }
            at++;
            return number;
        }

        private static int codeOf(byte[] bytes, int start, int end) {
            int number = numberOf(bytes, start, end);
            if (number != NONE) {
                return number;
            }
            for (Key key : KEYS) {
                if (spells(key.letters, bytes, start, end)) {
                    return key.code;
                }
            }
            return NONE;
        }

        private static int numberOf(byte[] bytes, int start, int end) {
            if (start < 0 || end > bytes.length || end <= start || end - start > MOST_DIGITS) {
                return NONE;
            }
            int number = 0;
            for (int i = start; i < end; i++) {
                if (bytes[i] < '0' || bytes[i] > '9') {
                    return NONE;
                }
                number = number * 10 + (bytes[i] - '0');
            }
            return number;
        }

        private static boolean spells(String letters, byte[] bytes, int start, int end) {
            if (start < 0 || end > bytes.length || end - start != letters.length()) {
                return false;
            }
            for (int i = start; i < end; i++) {
                if (bytes[i] != letters.charAt(i - start)) {
                    return false;
                }
            }
            return true;
        }
    }

    /**
     * Makes a book of words. What does not fit leaves the words standing at the one that cannot be
     * there, since read() tells its number.
     */
    private static final class Reader {
        final Book book = new Book();
        private final Words words;

        Reader(Words words) {
            this.words = words;
        }

        boolean readText() {
            for (int turn = 0; turn < MOST_WORDS && !words.ended(); turn++) {
                boolean fits = words.take(Key.FROM) ? readDay() : readRule();
                if (!fits) {
                    return false;
                }
            }
            return words.ended();
        }

        private boolean readDay() {
            int day = words.takeNumber(book.leastNextDay(), MOST_NUMBER);
            if (day == NONE) {
                return false;
            }
            book.addEdition(day);
            return true;
        }

        private boolean readRule() {
            int word = words.at;
            if (book.editionCount == 0 || book.ruleCount >= MOST_RULES || !words.take(Key.CLASS)) {
                return false;
            }
            int cls = words.takeNumber(0, CLASSES - 1);
            if (cls == NONE || !words.take(Key.WHEN)) {
                return false;
            }
            Rule rule = new Rule(cls, word);
            for (int turn = 0; turn < MOST_WORDS; turn++) {
                Item item = readItem();
                if (item == null) {
                    return false;
                }
                rule.addItem(item);
                if (words.take(Key.END)) {
                    book.addRule(rule);
                    return true;
                }
                if (!words.take(Key.AND)) {
                    return false;
                }
            }
            return false;
        }

        private Item readItem() {
            if (words.take(Key.TEST)) {
                return readTest();
            }
            if (words.take(Key.HOLDS)) {
                int cls = words.takeNumber(0, CLASSES - 1);
                return cls == NONE ? null : new Item(KIND_HOLDS, cls);
            }
            return words.take(Key.SUM) ? readSum() : null;
        }

        private Item readTest() {
            int kind = words.takeNumber(0, TESTS - 1);
            if (kind == NONE) {
                return null;
            }
            Item item = new Item(KIND_TEST, kind);
            item.turned = words.take(Key.NOT);
            if (!item.turned && !words.take(Key.IS)) {
                return null;
            }
            item.number = words.takeNumber(0, RESULTS - 1);
            return item.number == NONE ? null : item;
        }

        private Item readSum() {
            Item item = new Item(KIND_SUM, NONE);
            for (int turn = 0; turn < MOST_WORDS; turn++) {
                Term term = readTerm();
                if (term == null) {
                    return null;
                }
                item.addTerm(term);
                item.turned = words.take(Key.UNDER);
                if (item.turned || words.take(Key.OVER)) {
                    item.number = words.takeNumber(0, MOST_NUMBER);
                    return item.number == NONE ? null : item;
                }
            }
            return null;
        }

        private Term readTerm() {
            boolean minus = words.take(Key.MINUS);
            if (!minus && !words.take(Key.PLUS)) {
                return null;
            }
            int weight = words.takeNumber(0, MOST_WEIGHT);
            if (weight == NONE || !words.take(Key.OF)) {
                return null;
            }
            int part = words.takeNumber(0, PARTS - 1);
            if (part == NONE) {
                return null;
            }
            Term term = new Term(minus, weight, part);
            if (words.take(Key.CUT)) {
                term.cut = words.takeNumber(0, MOST_NUMBER);
            }
            if (term.cut != NONE && words.take(Key.BY)) {
                term.divisor = words.takeNumber(0, MOST_DIVISOR);
            }
            return term.cut == NONE || term.divisor == NONE ? null : term;
        }
    }

    private static final class Edition {
        final int day;
        Edition next = null;

        Edition(int day) {
            this.day = day;
        }
    }

    private static final class Rule {
        final int cls;
        final int word;
        int line = NONE;
        int edition = NONE;
        int itemCount = 0;
        int verdict = UNSEEN;
        Rule next = null;
        Item first = null;
        private Item last = null;

        Rule(int cls, int word) {
            this.cls = cls;
            this.word = word;
        }

        void addItem(Item item) {
            if (last == null) {
                first = item;
            } else {
                last.next = item;
            }
            last = item;
            itemCount++;
        }

        Item itemAt(int k) {
            int seen = 0;
            for (Item item = first; item != null; item = item.next) {
                if (seen == k) {
                    return item;
                }
                seen++;
            }
            return null;
        }

        Item firstSum() {
            for (Item item = first; item != null; item = item.next) {
                if (item.kind == KIND_SUM) {
                    return item;
                }
            }
            return null;
        }

        boolean hasTest() {
            for (Item item = first; item != null; item = item.next) {
                if (item.kind == KIND_TEST) {
                    return true;
                }
            }
            return false;
        }

        boolean hasAllResults(Facts facts) {
            for (Item item = first; item != null; item = item.next) {
                if (item.kind == KIND_TEST && facts.resultOf(item.subject) == NONE) {
                    return false;
                }
            }
            return true;
        }

        int leastOver() {
            int least = NONE;
            for (Item item = first; item != null; item = item.next) {
                if (item.kind == KIND_SUM && !item.turned && (least == NONE || item.number < least)) {
                    least = item.number;
                }
            }
            return least;
        }
    }

    private static final class Item {
        final int kind;
        // The test or the class that is asked about.
        final int subject;
        // not in the stead of is, under in the stead of over.
        boolean turned = false;
        int number = NONE;
        Item next = null;
        Term firstTerm = null;
        private Term lastTerm = null;

        Item(int kind, int subject) {
            this.kind = kind;
            this.subject = subject;
        }

        void addTerm(Term term) {
            if (lastTerm == null) {
                firstTerm = term;
            } else {
                lastTerm.next = term;
            }
            lastTerm = term;
        }
    }

    /** Without cut and by it is as with cut 0 and by 1: no value is below 0, and over 1 changes nothing. */
    private static final class Term {
        final boolean minus;
        final int weight;
        final int part;
        int cut = 0;
        int divisor = 1;
        Term next = null;

        Term(boolean minus, int weight, int part) {
            this.minus = minus;
            this.weight = weight;
            this.part = part;
        }
    }

    /** Rules, and in each of them what it was when they were looked at last. */
    private static final class Book {
        Rule first = null;
        private Rule last = null;
        int ruleCount = 0;
        private Edition firstEdition = null;
        private Edition lastEdition = null;
        int editionCount = 0;
        int acted = NONE;

        int leastNextDay() {
            return lastEdition == null ? 0 : lastEdition.day + 1;
        }

        void addEdition(int day) {
            Edition edition = new Edition(day);
            if (lastEdition == null) {
                firstEdition = edition;
            } else {
                lastEdition.next = edition;
            }
            lastEdition = edition;
            editionCount++;
        }

        void addRule(Rule rule) {
            rule.line = ruleCount;
            rule.edition = editionCount - 1;
            if (last == null) {
                first = rule;
            } else {
                last.next = rule;
            }
            last = rule;
            ruleCount++;
        }

        int actingOn(long day) {
            int number = NONE;
            for (Edition e = firstEdition; e != null && e.day <= day; e = e.next) {
                number++;
            }
            return number;
        }

        Rule ruleAt(int line) {
            for (Rule rule = first; rule != null; rule = rule.next) {
                if (rule.line == line) {
                    return rule;
                }
            }
            return null;
        }

        int lookAt(long day, Facts facts) {
            acted = actingOn(day);
            // holds asks about the rules before, so what an earlier look found must be gone first.
            for (Rule rule = first; rule != null; rule = rule.next) {
                rule.verdict = UNSEEN;
            }
            for (Rule rule = first; rule != null; rule = rule.next) {
                if (rule.edition == acted) {
                    rule.verdict = isPassedOver(rule, facts) ? PASSED_OVER : verdictOf(rule, facts);
                }
            }
            Rule open = openRule(0);
            return open == null ? heldCount() : -1 - open.line;
        }

        private boolean isPassedOver(Rule rule, Facts facts) {
            if (rule.hasTest()) {
                return false;
            }
            for (Rule other = first; other != null; other = other.next) {
                if (other.edition == rule.edition && other.cls == rule.cls
                        && other.hasTest() && other.hasAllResults(facts)) {
                    return true;
                }
            }
            return false;
        }

        private int verdictOf(Rule rule, Facts facts) {
            int found = SO;
            for (Item item = rule.first; item != null; item = item.next) {
                int verdict = itemVerdict(item, facts);
                if (verdict == NOT_SO) {
                    return NOT_SO;
                }
                if (found == SO) {
                    found = verdict;
                }
            }
            return found;
        }

        private int itemVerdict(Item item, Facts facts) {
            switch (item.kind) {
                case KIND_TEST:
                    return facts.testVerdict(item);
                case KIND_HOLDS:
                    return holdsVerdict(item.subject);
                default:
                    return facts.sumVerdict(item);
            }
        }

        private int holdsVerdict(int cls) {
            if (isHeld(cls)) {
                return SO;
            }
            for (Rule rule = first; rule != null; rule = rule.next) {
                if (rule.cls == cls && rule.verdict >= 0) {
                    return LACKS_CLASS + cls;
                }
            }
            return NOT_SO;
        }

        boolean isHeld(int cls) {
            return heldBy(cls, 0) != null;
        }

        Rule heldBy(int cls, int k) {
            int seen = 0;
            for (Rule rule = first; rule != null; rule = rule.next) {
                if (rule.cls == cls && rule.verdict == SO) {
                    if (seen == k) {
                        return rule;
                    }
                    seen++;
                }
            }
            return null;
        }

        boolean isFirstToHold(Rule rule) {
            Rule holder = heldBy(rule.cls, 0);
            return holder != null && holder.line == rule.line;
        }

        private int heldCount() {
            int count = 0;
            for (int c = 0; c < CLASSES; c++) {
                if (isHeld(c)) {
                    count++;
                }
            }
            return count;
        }

        private boolean isOpen(Rule rule) {
            return rule.verdict >= 0 && !isHeld(rule.cls);
        }

        Rule openRule(int k) {
            int seen = 0;
            for (Rule rule = first; rule != null; rule = rule.next) {
                if (isOpen(rule)) {
                    if (seen == k) {
                        return rule;
                    }
                    seen++;
                }
            }
            return null;
        }

        boolean isFirstToLack(Rule rule) {
            if (!isOpen(rule)) {
                return false;
            }
            for (Rule other = first; other != null && other.line < rule.line; other = other.next) {
                if (other.verdict == rule.verdict && isOpen(other)) {
                    return false;
                }
            }
            return true;
        }
    }

    private static final class Facts {
        boolean strict = true;
        private final long[] lows = new long[PARTS];
        private final long[] highs = new long[PARTS];
        private final boolean[] spanned = new boolean[PARTS];
        private final int[] results = new int[TESTS];

        Facts() {
            Arrays.fill(results, NONE);
        }

        boolean setSpan(int part, long low, long high) {
            if (part < 0 || part >= PARTS || low < 0 || low > high || high > MOST_VALUE) {
                return false;
            }
            lows[part] = low;
            highs[part] = high;
            spanned[part] = true;
            return true;
        }

        boolean setResult(int kind, int result) {
            if (kind < 0 || kind >= TESTS || result < NONE || result >= RESULTS) {
                return false;
            }
            results[kind] = result;
            return true;
        }

        void forget() {
            for (int p = 0; p < PARTS; p++) {
                spanned[p] = false;
            }
            Arrays.fill(results, NONE);
        }

        int resultOf(int kind) {
            return kind < 0 || kind >= TESTS ? NONE : results[kind];
        }

        private boolean hasSpan(int part) {
            return part >= 0 && part < PARTS && spanned[part];
        }

        int testVerdict(Item item) {
            int result = resultOf(item.subject);
            if (result == NONE) {
                return LACKS_RESULT + item.subject;
            }
            boolean same = result == item.number;
            return same != item.turned ? SO : NOT_SO;
        }

        int sumVerdict(Item item) {
            int lack = lackOf(item);
            if (lack != NONE) {
                return lack;
            }
            // Strict reads doubt towards the hazard: the end that makes the item SO more readily.
            long sum = sumAt(item, strict != item.turned, NONE);
            boolean so = item.turned ? sum < item.number : sum > item.number;
            return so ? SO : NOT_SO;
        }

        int lackOf(Item item) {
            for (Term term = item.firstTerm; term != null; term = term.next) {
                if (!hasSpan(term.part)) {
                    return term.part;
                }
                if (term.divisor == 0) {
                    return LACKS_DIVISOR + term.part;
                }
            }
            return NONE;
        }

        long sumAt(Item item, boolean high, int part) {
            long sum = 0;
            for (Term term = item.firstTerm; term != null; term = term.next) {
                if (part == NONE || part == term.part) {
                    sum += shareOf(term, high);
                }
            }
            return sum;
        }

        private long shareOf(Term term, boolean high) {
            if (!hasSpan(term.part) || term.divisor == 0) {
                return 0;
            }
            long value = high != term.minus ? highs[term.part] : lows[term.part];
            if (value < term.cut) {
                value = 0;
            }
            long share = value * term.weight / term.divisor;
            return term.minus ? -share : share;
        }
    }
}
