/**
 * The document's limits of 3000 bytes and 60 rules. An object's 512 calls do not reach them, so a
 * caller is promised nothing here; yet no call may ever fail by itself, full rows included.
 */
public final class LimitsTest {
    public static void main(String[] args) {
        threeThousandBytes();
        mostWords();
        sixtyRules();
        mostEditions();
        mostTermsAndItems();
        Check.end();
    }

    private static void threeThousandBytes() {
        HazardRules x = new HazardRules();
        Check.feed(x, "from 12" + " ".repeat(2993));
        Check.due("unit(32) behind 3000", x.unit(32), false);
        Check.due("unit(48) behind 3000", x.unit(48), false);
        Check.due("unit(256) behind 3000", x.unit(256), false);
        Check.due("read()", x.read(), 0);
        Check.due("edition(12)", x.edition(12), 0);
        Check.feed(x, "x".repeat(3000));
        Check.due("unit(32) behind 3000", x.unit(32), false);
        Check.due("read()", x.read(), -1);
        Check.due("unit(32) of an empty text", x.unit(32), true);
    }

    private static void mostWords() {
        HazardRules x = new HazardRules();
        Check.feed(x, "x ".repeat(1500));
        Check.due("read()", x.read(), -1);
        StringBuilder text = new StringBuilder("from 1 class 3 when sum");
        int words = 6;
        while (text.length() + 12 <= 3000) {
            text.append(" plus 0 of 0");
            words += 4;
        }
        Check.feed(x, text.toString());
        Check.due("read()", x.read(), -1 - words);
    }

    private static void sixtyRules() {
        String rules = "class 7 when test 0 is 0 end ".repeat(60);
        HazardRules x = Check.load(60, "from 1 " + rules);
        Check.due("run(1)", x.run(1), -1);
        Check.due("open(59, 0)", x.open(59, 0), 59);
        Check.due("open(60, 0)", x.open(60, 0), -1);
        x.test(0, 0);
        Check.due("walk(1)", x.walk(1), 1);
        Check.due("explain(7, 59, 0)", x.explain(7, 59, 0), 59);
        Check.due("explain(7, 60, 0)", x.explain(7, 60, 0), -1);
        Check.feed(x, "from 1 " + rules + "class");
        Check.due("read() of 61 rules", x.read(), -1 - 482);
        Check.feed(x, "from 1 " + rules + "from 2");
        Check.due("read() of 60 rules and an edition", x.read(), 60);
        Check.feed(x, "from 1 " + rules + "from 2 class 7 when test 0 is 0 end");
        Check.due("read() of 61 rules", x.read(), -1 - 484);
    }

    private static void mostEditions() {
        StringBuilder text = new StringBuilder();
        int count = 0;
        while (text.length() + 9 <= 3000) {
            text.append("from ").append(count).append(' ');
            count++;
        }
        HazardRules x = Check.load(0, text.toString());
        Check.due("edition(max)", x.edition(Long.MAX_VALUE), count - 1);
        Check.due("run(5)", x.run(5), 0);
    }

    private static void mostTermsAndItems() {
        HazardRules x = Check.load(1, "from 0 class 1 when sum " + "plus 1000 of 0 ".repeat(190) + "over 0 end");
        x.part(0, 1000000, 1000000);
        Check.due("sum(0, 0, -1)", x.sum(0, 0, -1), 190L * 1000 * 1000000);
        Check.due("run(0)", x.run(0), 1);
        x = Check.load(1, "from 0 class 1 when " + "holds 1 and ".repeat(240) + "holds 1 end");
        Check.due("table(0, 240)", x.table(0, 240), 1);
        Check.due("walk(0)", x.walk(0), 0);
    }
}
