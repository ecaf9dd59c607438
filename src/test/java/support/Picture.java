import java.util.ArrayList;
import java.util.List;

/**
 * All that can be seen of an object, as a row of answers. Results of tests, the way and the text that
 * waits show only by run(), way() and read(), so an object whose picture was taken is used up.
 */
final class Picture {
    /** Every part stands in rule 0, so that each span shows by sum(). */
    static final String TEXT = "from 2 class 3 when sum plus 1 of 0 plus 1 of 1 plus 1 of 2 plus 1 of 3 plus 1 of 4"
            + " plus 1 of 5 plus 1 of 6 plus 1 of 7 plus 1 of 8 plus 1 of 9 plus 1 of 10 plus 1 of 11 plus 1 of 12"
            + " plus 1 of 13 plus 1 of 14 plus 1 of 15 over 99 end class 0 when test 0 is 4 end"
            + " from 4 class 19 when test 7 not 4 end class 5 when test 1 is 4 end";
    static final int RULES = 4;

    private final HazardRules x;
    private final List<String> answers = new ArrayList<>();

    private Picture(HazardRules x) {
        this.x = x;
    }

    /** An object with rules, all facts but one, a look at its second edition and half a word that waits. */
    static HazardRules full() {
        HazardRules x = Check.load(RULES, TEXT);
        for (int p = 0; p < 16; p++) {
            Check.due("part", x.part(p, p, p + 10), true);
        }
        Check.due("test(0, 4)", x.test(0, 4), true);
        Check.due("test(7, 5)", x.test(7, 5), true);
        Check.due("way(false)", x.way(false), true);
        Check.due("run(4)", x.run(4), -4);
        Check.feed(x, "from 8 fr");
        return x;
    }

    static List<String> of(HazardRules x) {
        Picture picture = new Picture(x);
        picture.takeLook();
        picture.takeRules();
        boolean strict = x.way(true);
        picture.add("way", strict ? 1 : 0);
        x.way(strict);
        picture.add("run(2)", x.run(2));
        picture.takeLook();
        picture.add("walk(4)", x.walk(4));
        picture.takeLook();
        x.unit('o');
        x.unit('m');
        x.unit(' ');
        x.unit('9');
        picture.add("read()", x.read());
        picture.add("edition(8)", x.edition(8));
        picture.add("edition(9)", x.edition(9));
        return picture.answers;
    }

    private void add(String call, long answer) {
        answers.add(call + " = " + answer);
    }

    private void takeLook() {
        add("cls(0)", x.cls(0));
        add("cls(1)", x.cls(1));
        add("mark(0)", x.mark(0));
        add("mark(1)", x.mark(1));
        add("moving()", x.moving());
        add("missing(0)", x.missing(0));
        add("missing(1)", x.missing(1));
        add("open(1, 0)", x.open(1, 0));
        for (int what = 0; what < 3; what++) {
            add("open(0, " + what + ")", x.open(0, what));
            add("explain(19, 0, " + what + ")", x.explain(19, 0, what));
        }
        add("explain(0, 0, 0)", x.explain(0, 0, 0));
        add("limit(3)", x.limit(3));
    }

    private void takeRules() {
        for (int p = 0; p < 16; p++) {
            add("sum(0, 0, " + p + ")", x.sum(0, 0, p));
            add("sum(0, 1, " + p + ")", x.sum(0, 1, p));
        }
        for (int t = 0; t <= RULES; t++) {
            add("table(" + t + ", 0)", tableOf(t));
        }
        for (int i : new int[] {0, 5, 13, 200, TEXT.length() - 1, TEXT.length()}) {
            add("write(" + i + ")", x.write(i));
        }
        for (int day = 1; day < 5; day++) {
            add("edition(" + day + ")", x.edition(day));
        }
    }

    private int tableOf(int t) {
        try {
            return x.table(t, 0);
        } catch (ArrayIndexOutOfBoundsException e) {
            return -99;
        }
    }
}
