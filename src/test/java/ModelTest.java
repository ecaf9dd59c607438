import java.util.ArrayList;
import java.util.List;
import java.util.Random;

/** All promises at once: runs of calls made up from fixed seeds, on the class and on Model. */
public final class ModelTest {
    private static final int RUNS = 6000;
    private static final int CALLS = 512;
    private static final String[] VOCABULARY = {
        "from", "class", "when", "and", "end", "test", "is", "not", "holds", "sum", "over", "under", "plus",
        "minus", "of", "cut", "by", "0", "1", "7", "8", "9", "10", "15", "16", "19", "20", "999", "1000", "1001",
        "999999999", "1000000000", "x", "End", "\t", "\u00e9"
    };

    private final Random random;
    private final HazardRules x = new HazardRules();
    private final Model model = new Model();
    private final String name;
    private int left = CALLS;

    private ModelTest(int seed) {
        random = new Random(seed);
        name = "run " + seed + ": ";
    }

    public static void main(String[] args) {
        for (int seed = 0; seed < RUNS; seed++) {
            new ModelTest(seed).play();
        }
        everyWordEverywhere();
        Check.end();
    }

    private static void everyWordEverywhere() {
        String whole = "from 1 class 3 when sum plus 1 of 1 cut 2 by 3 minus 1 of 2 over 4 and test 1 not 2 and holds 5 end"
                + " from 2 class 4 when test 1 is 2 end";
        int size = whole.split(" ").length;
        for (int at = 0; at <= size; at++) {
            for (String word : VOCABULARY) {
                List<String> words = new ArrayList<>(List.of(whole.split(" ")));
                words.add(at, word);
                readsAlike(String.join(" ", words));
                if (at < size) {
                    words.remove(at + 1);
                    readsAlike(String.join(" ", words));
                }
                readsAlike(String.join(" ", words.subList(0, Math.min(at + 1, words.size()))));
            }
        }
    }

    private static void readsAlike(String text) {
        HazardRules x = new HazardRules();
        Model model = new Model();
        for (int i = 0; i < text.length(); i++) {
            x.unit(text.charAt(i));
            model.unit(text.charAt(i));
        }
        Check.due("read() of " + text, x.read(), model.read());
    }

    private int below(int n) {
        return random.nextInt(n);
    }

    private void due(String call, long got, long want) {
        left--;
        Check.due(name + call, got, want);
    }

    private void play() {
        int texts = 1 + below(3);
        for (int t = 0; t < texts; t++) {
            readOne((CALLS - 160) / texts);
            int asks = 1 + below(3);
            for (int a = 0; a < asks && left > 60; a++) {
                facts();
                look();
                ask();
            }
        }
        while (left > 60) {
            facts();
            look();
            ask();
        }
    }

    private void readOne(int most) {
        List<String> words = words(most - 20);
        if (below(4) == 0 && !words.isEmpty()) {
            spoil(words);
        }
        StringBuilder text = new StringBuilder(below(8) == 0 ? "\n" : "");
        for (String word : words) {
            text.append(text.length() == 0 ? "" : below(20) == 0 ? " \n" : " ").append(word);
        }
        for (int i = 0; i < text.length() && i < most && left > 100; i++) {
            char u = text.charAt(i);
            due("unit(" + (int) u + ")", x.unit(u) ? 1 : 0, model.unit(u) ? 1 : 0);
        }
        due("read() of " + text, x.read(), model.read());
    }

    private List<String> words(int most) {
        List<String> words = new ArrayList<>();
        int day = below(3);
        int size = 0;
        while (size < most) {
            List<String> more = new ArrayList<>();
            if (words.isEmpty() || below(5) == 0) {
                more.addAll(List.of("from", "" + day));
                day += 1 + below(2);
            } else {
                addRule(more);
            }
            int length = String.join(" ", more).length() + 1;
            if (size + length > most || below(25) == 0) {
                break;
            }
            size += length;
            words.addAll(more);
        }
        return words;
    }

    private void addRule(List<String> words) {
        words.addAll(List.of("class", "" + below(4), "when"));
        int items = 1 + below(below(3) + 1);
        for (int i = 0; i < items; i++) {
            if (i > 0) {
                words.add("and");
            }
            addItem(words);
        }
        words.add("end");
    }

    private void addItem(List<String> words) {
        int kind = below(5);
        if (kind < 2) {
            words.addAll(List.of("test", "" + below(3), below(2) == 0 ? "is" : "not", "" + below(3)));
        } else if (kind == 2) {
            words.addAll(List.of("holds", "" + below(4)));
        } else {
            addSum(words);
        }
    }

    private void addSum(List<String> words) {
        words.add("sum");
        int terms = 1 + below(3);
        for (int i = 0; i < terms; i++) {
            words.addAll(List.of(below(3) == 0 ? "minus" : "plus", "" + below(4), "of", "" + below(4)));
            if (below(4) == 0) {
                words.addAll(List.of("cut", "" + below(8)));
            }
            if (below(4) == 0) {
                words.addAll(List.of("by", "" + below(4)));
            }
        }
        words.addAll(List.of(below(2) == 0 ? "over" : "under", "" + below(16)));
    }

    private void spoil(List<String> words) {
        int at = below(words.size());
        switch (below(4)) {
            case 0:
                words.remove(at);
                break;
            case 1:
                words.add(at, VOCABULARY[below(VOCABULARY.length)]);
                break;
            case 2:
                words.set(at, VOCABULARY[below(VOCABULARY.length)]);
                break;
            default:
                words.subList(at, words.size()).clear();
                break;
        }
    }

    private void facts() {
        int changes = below(7);
        for (int i = 0; i < changes; i++) {
            int choice = below(12);
            if (choice < 6) {
                int part = below(30) == 0 ? -1 + 17 * below(2) : below(4);
                long low = below(9) - (below(20) == 0 ? 9 : 0);
                long high = low + below(5) - (below(20) == 0 ? 4 : 0);
                due("part(" + part + ", " + low + ", " + high + ")", x.part(part, low, high) ? 1 : 0,
                        model.part(part, low, high) ? 1 : 0);
            } else if (choice < 10) {
                int kind = below(30) == 0 ? -1 + 9 * below(2) : below(3);
                int result = below(20) == 0 ? -2 + 12 * below(2) : below(4) - 1;
                due("test(" + kind + ", " + result + ")", x.test(kind, result) ? 1 : 0, model.test(kind, result) ? 1 : 0);
            } else if (choice == 10) {
                boolean strict = below(2) == 0;
                due("way(" + strict + ")", x.way(strict) ? 1 : 0, model.way(strict) ? 1 : 0);
            } else if (below(3) == 0) {
                left--;
                x.clearParts();
                model.clearParts();
            }
        }
    }

    private void look() {
        long day = below(10) - 1;
        if (below(2) == 0) {
            due("run(" + day + ")", x.run(day), model.run(day));
        } else {
            due("walk(" + day + ")", x.walk(day), model.run(day));
        }
    }

    private void ask() {
        for (int i = 0; i < 30 && left > 0; i++) {
            int k = below(5) - (below(10) == 0 ? 2 : 0);
            int cls = below(5);
            int what = below(3) + (below(10) == 0 ? 1 : 0);
            askOne(below(12), k, cls, what);
        }
    }

    private void askOne(int choice, int k, int cls, int what) {
        String args = "(" + k + ", " + cls + ", " + what + ")";
        switch (choice) {
            case 0: due("cls" + args, x.cls(k), model.cls(k)); break;
            case 1: due("mark" + args, x.mark(k), model.mark(k)); break;
            case 2: due("moving()", x.moving(), model.moving()); break;
            case 3: due("open" + args, x.open(k, what), model.open(k, what)); break;
            case 4: due("missing" + args, x.missing(k), model.missing(k)); break;
            case 5: due("explain" + args, x.explain(cls, k, what), model.explain(cls, k, what)); break;
            case 6: due("limit" + args, x.limit(cls), model.limit(cls)); break;
            case 7: due("sum at low" + args, x.sum(k, 0, cls - 1), model.sum(k, 0, cls - 1)); break;
            case 8: due("sum" + args, x.sum(k, what, cls - 1), model.sum(k, what, cls - 1)); break;
            case 9: due("table" + args, table(k, what), model.table(k, what)); break;
            case 10: due("edition" + args, x.edition(k), model.edition(k)); break;
            default:
                int i = below(200);
                due("write(" + i + ")", x.write(i), model.write(i));
                break;
        }
    }

    private int table(int t, int k) {
        try {
            return x.table(t, k);
        } catch (ArrayIndexOutOfBoundsException e) {
            return -99;
        }
    }
}
