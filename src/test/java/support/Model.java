import java.util.ArrayList;
import java.util.LinkedHashSet;
import java.util.List;
import java.util.TreeSet;

/**
 * The document read a second time, in other ways than the class does it: the grammar as a row of
 * states, and rules judged from their words each time. It serves ModelTest alone.
 */
final class Model {
    private enum State {
        START, TOP, DAY, CLASS, WHEN, ITEM, TEST, IS, RESULT, HOLDS, FIRST_TERM, WEIGHT, OF, PART, BEHIND_PART,
        CUT, BEHIND_CUT, BY, BEHIND_BY, BOUND, BEHIND_ITEM, BAD
    }

    private enum Verdict { SO, NOT_SO, OPEN, PASSED_OVER }

    private static final class Rule {
        int line;
        int edition;
        int word;
        final List<String> words = new ArrayList<>();
        Verdict verdict;
        int lack;

        int cls() {
            return Integer.parseInt(words.get(1));
        }

        List<List<String>> items() {
            List<List<String>> items = new ArrayList<>();
            List<String> item = new ArrayList<>();
            for (String word : words.subList(3, words.size())) {
                if (word.equals("and") || word.equals("end")) {
                    items.add(item);
                    item = new ArrayList<>();
                } else {
                    item.add(word);
                }
            }
            return items;
        }
    }

    private final StringBuilder text = new StringBuilder();
    private List<String> keptWords = new ArrayList<>();
    private List<Long> days = new ArrayList<>();
    private List<Rule> rules = new ArrayList<>();
    private final long[][] spans = new long[16][];
    private final int[] results = {-1, -1, -1, -1, -1, -1, -1, -1};
    private boolean strict = true;
    private int acted = -1;
    private List<Rule> looked = new ArrayList<>();

    boolean unit(int u) {
        if (u < 0 || u > 255 || text.length() == 3000) {
            return false;
        }
        text.append((char) u);
        return true;
    }

    int read() {
        List<String> words = new ArrayList<>();
        for (String word : text.toString().split("[ \n]+")) {
            if (!word.isEmpty()) {
                words.add(word);
            }
        }
        text.setLength(0);
        int wrong = firstWrong(words);
        if (wrong >= 0) {
            return -1 - wrong;
        }
        keptWords = words;
        build(words);
        acted = -1;
        looked = new ArrayList<>();
        return rules.size();
    }

    private static boolean number(String word, long most) {
        return word.matches("[0-9]{1,9}") && Long.parseLong(word) <= most;
    }

    private static int firstWrong(List<String> words) {
        State state = State.START;
        long day = -1;
        int count = 0;
        for (int i = 0; i < words.size(); i++) {
            String word = words.get(i);
            State next = next(state, word);
            if (state == State.DAY && next == State.TOP) {
                if (Long.parseLong(word) <= day) {
                    return i;
                }
                day = Long.parseLong(word);
            }
            if (state == State.TOP && next == State.CLASS && ++count > 60) {
                return i;
            }
            if (next == State.BAD) {
                return i;
            }
            state = next;
        }
        return state == State.START || state == State.TOP ? -1 : words.size();
    }

    private static State next(State state, String w) {
        long most = 999999999;
        switch (state) {
            case START: return w.equals("from") ? State.DAY : State.BAD;
            case TOP: return w.equals("from") ? State.DAY : w.equals("class") ? State.CLASS : State.BAD;
            case DAY: return number(w, most) ? State.TOP : State.BAD;
            case CLASS: return number(w, 19) ? State.WHEN : State.BAD;
            case WHEN: return w.equals("when") ? State.ITEM : State.BAD;
            case ITEM: return w.equals("test") ? State.TEST : w.equals("holds") ? State.HOLDS
                    : w.equals("sum") ? State.FIRST_TERM : State.BAD;
            case TEST: return number(w, 7) ? State.IS : State.BAD;
            case IS: return w.equals("is") || w.equals("not") ? State.RESULT : State.BAD;
            case RESULT: return number(w, 9) ? State.BEHIND_ITEM : State.BAD;
            case HOLDS: return number(w, 19) ? State.BEHIND_ITEM : State.BAD;
            case FIRST_TERM: return w.equals("plus") || w.equals("minus") ? State.WEIGHT : State.BAD;
            case WEIGHT: return number(w, 1000) ? State.OF : State.BAD;
            case OF: return w.equals("of") ? State.PART : State.BAD;
            case PART: return number(w, 15) ? State.BEHIND_PART : State.BAD;
            case CUT: return number(w, most) ? State.BEHIND_CUT : State.BAD;
            case BY: return number(w, 999) ? State.BEHIND_BY : State.BAD;
            case BEHIND_PART: return w.equals("cut") ? State.CUT : w.equals("by") ? State.BY : behindTerm(w);
            case BEHIND_CUT: return w.equals("by") ? State.BY : behindTerm(w);
            case BEHIND_BY: return behindTerm(w);
            case BOUND: return number(w, most) ? State.BEHIND_ITEM : State.BAD;
            case BEHIND_ITEM: return w.equals("and") ? State.ITEM : w.equals("end") ? State.TOP : State.BAD;
            default: return State.BAD;
        }
    }

    private static State behindTerm(String w) {
        return w.equals("over") || w.equals("under") ? State.BOUND : next(State.FIRST_TERM, w);
    }

    private void build(List<String> words) {
        days = new ArrayList<>();
        rules = new ArrayList<>();
        Rule rule = null;
        for (int i = 0; i < words.size(); i++) {
            String word = words.get(i);
            if (word.equals("from")) {
                days.add(Long.parseLong(words.get(i + 1)));
            } else if (word.equals("class")) {
                rule = new Rule();
                rule.line = rules.size();
                rule.edition = days.size() - 1;
                rule.word = i;
                rules.add(rule);
            }
            if (rule != null) {
                rule.words.add(word);
            }
            if (word.equals("end")) {
                rule = null;
            }
        }
    }

    int edition(long day) {
        int found = -1;
        for (int e = 0; e < days.size(); e++) {
            if (days.get(e) <= day) {
                found = e;
            }
        }
        return found;
    }

    boolean part(int part, long low, long high) {
        if (part < 0 || part > 15 || low < 0 || high > 1000000 || low > high) {
            return false;
        }
        spans[part] = new long[] {low, high};
        return true;
    }

    boolean test(int kind, int result) {
        if (kind < 0 || kind > 7 || result < -1 || result > 9) {
            return false;
        }
        results[kind] = result;
        return true;
    }

    void clearParts() {
        java.util.Arrays.fill(spans, null);
        java.util.Arrays.fill(results, -1);
    }

    boolean way(boolean now) {
        boolean before = strict;
        strict = now;
        return before;
    }

    int run(long day) {
        acted = edition(day);
        looked = new ArrayList<>();
        for (Rule rule : rules) {
            if (rule.edition == acted) {
                judge(rule);
                looked.add(rule);
            }
        }
        List<Rule> open = openRules();
        return open.isEmpty() ? byNumber().size() : -1 - open.get(0).line;
    }

    private void judge(Rule rule) {
        rule.lack = -1;
        if (testsOf(rule).isEmpty() && testsWin(rule)) {
            rule.verdict = Verdict.PASSED_OVER;
            return;
        }
        rule.verdict = Verdict.SO;
        for (List<String> item : rule.items()) {
            int lack = lackOf(item);
            if (lack < 0 && !isSo(item)) {
                rule.verdict = Verdict.NOT_SO;
                return;
            }
            if (lack >= 0 && rule.verdict == Verdict.SO) {
                rule.verdict = Verdict.OPEN;
                rule.lack = lack;
            }
        }
    }

    private List<Integer> testsOf(Rule rule) {
        List<Integer> tests = new ArrayList<>();
        for (List<String> item : rule.items()) {
            if (item.get(0).equals("test")) {
                tests.add(Integer.parseInt(item.get(1)));
            }
        }
        return tests;
    }

    private boolean testsWin(Rule rule) {
        return rules.stream().anyMatch(r -> r.edition == rule.edition && r.cls() == rule.cls()
                && !testsOf(r).isEmpty() && testsOf(r).stream().allMatch(t -> results[t] >= 0));
    }

    private int lackOf(List<String> item) {
        int subject = item.get(0).equals("sum") ? -1 : Integer.parseInt(item.get(1));
        switch (item.get(0)) {
            case "test":
                return results[subject] < 0 ? 100 + subject : -1;
            case "holds":
                boolean so = looked.stream().anyMatch(r -> r.cls() == subject && r.verdict == Verdict.SO);
                boolean open = looked.stream().anyMatch(r -> r.cls() == subject && r.verdict == Verdict.OPEN);
                return !so && open ? 300 + subject : -1;
            default:
                return lackOfSum(item);
        }
    }

    private int lackOfSum(List<String> item) {
        for (List<String> term : termsOf(item)) {
            int part = Integer.parseInt(term.get(3));
            if (spans[part] == null) {
                return part;
            }
            if (behind("by", term, 1) == 0) {
                return 200 + part;
            }
        }
        return -1;
    }

    private boolean isSo(List<String> item) {
        int subject = item.get(0).equals("sum") ? -1 : Integer.parseInt(item.get(1));
        switch (item.get(0)) {
            case "test":
                return item.get(2).equals("is") == (results[subject] == Integer.parseInt(item.get(3)));
            case "holds":
                return looked.stream().anyMatch(r -> r.cls() == subject && r.verdict == Verdict.SO);
            default:
                long bound = Long.parseLong(item.get(item.size() - 1));
                if (item.contains("over")) {
                    return total(item, strict ? 1 : 0, -1) > bound;
                }
                return total(item, strict ? 0 : 1, -1) < bound;
        }
    }

    private static List<List<String>> termsOf(List<String> item) {
        List<List<String>> terms = new ArrayList<>();
        for (String word : item.subList(1, item.size() - 2)) {
            if (word.equals("plus") || word.equals("minus")) {
                terms.add(new ArrayList<>());
            }
            terms.get(terms.size() - 1).add(word);
        }
        return terms;
    }

    private static long behind(String key, List<String> term, long otherwise) {
        int at = term.indexOf(key);
        return at < 0 ? otherwise : Long.parseLong(term.get(at + 1));
    }

    private long total(List<String> item, int end, int onlyPart) {
        long total = 0;
        for (List<String> term : termsOf(item)) {
            int part = Integer.parseInt(term.get(3));
            if (onlyPart != -1 && onlyPart != part) {
                continue;
            }
            boolean plus = term.get(0).equals("plus");
            long value = spans[part][plus ? end : 1 - end];
            value = value < behind("cut", term, 0) ? 0 : value;
            value = Math.floorDiv(value * Long.parseLong(term.get(1)), behind("by", term, 1));
            total += plus ? value : -value;
        }
        return total;
    }

    private List<Rule> heldBy(int cls) {
        List<Rule> found = new ArrayList<>();
        for (Rule rule : looked) {
            if (rule.verdict == Verdict.SO && rule.cls() == cls) {
                found.add(rule);
            }
        }
        return found;
    }

    private List<Rule> openRules() {
        List<Rule> found = new ArrayList<>();
        for (Rule rule : looked) {
            if (rule.verdict == Verdict.OPEN && heldBy(rule.cls()).isEmpty()) {
                found.add(rule);
            }
        }
        return found;
    }

    private List<Integer> byTime() {
        LinkedHashSet<Integer> found = new LinkedHashSet<>();
        for (Rule rule : looked) {
            if (rule.verdict == Verdict.SO) {
                found.add(rule.cls());
            }
        }
        return new ArrayList<>(found);
    }

    private List<Integer> byNumber() {
        return new ArrayList<>(new TreeSet<>(byTime()));
    }

    private static int at(List<Integer> row, int k) {
        return k >= 0 && k < row.size() ? row.get(k) : -1;
    }

    int cls(int k) {
        return at(byNumber(), k);
    }

    int mark(int k) {
        return at(byTime(), k);
    }

    int moving() {
        return at(byNumber(), 0);
    }

    int open(int k, int what) {
        List<Rule> open = openRules();
        if (k < 0 || k >= open.size()) {
            return -1;
        }
        return at(List.of(open.get(k).line, open.get(k).cls(), open.get(k).lack), what);
    }

    int missing(int k) {
        LinkedHashSet<Integer> found = new LinkedHashSet<>();
        for (Rule rule : openRules()) {
            found.add(rule.lack);
        }
        return at(new ArrayList<>(found), k);
    }

    int explain(int cls, int k, int what) {
        List<Rule> held = heldBy(cls);
        if (k < 0 || k >= held.size()) {
            return -1;
        }
        return at(List.of(held.get(k).line, held.get(k).items().size(), held.get(k).word), what);
    }

    long limit(int cls) {
        long least = -1;
        for (Rule rule : rules) {
            for (List<String> item : rule.items()) {
                if (rule.edition == acted && rule.cls() == cls && item.contains("over")) {
                    long number = Long.parseLong(item.get(item.size() - 1));
                    least = least < 0 ? number : Math.min(least, number);
                }
            }
        }
        return least;
    }

    long sum(int rule, int end, int part) {
        if (rule < 0 || rule >= rules.size() || end < 0 || end > 1) {
            return 0;
        }
        for (List<String> item : rules.get(rule).items()) {
            if (item.get(0).equals("sum")) {
                return lackOfSum(item) >= 0 ? 0 : total(item, end, part);
            }
        }
        return 0;
    }

    /** -99 where the class has to throw. */
    int table(int t, int k) {
        if (t < 0 || t >= rules.size() || k < 0 || k >= rules.get(t).items().size()) {
            return -99;
        }
        return List.of("test", "holds", "sum").indexOf(rules.get(t).items().get(k).get(0));
    }

    int write(int i) {
        String written = String.join(" ", keptWords);
        return i >= 0 && i < written.length() ? written.charAt(i) : -1;
    }
}
