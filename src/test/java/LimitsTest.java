/**
 * The document's limits of 3000 bytes and 60 rules. An object's 512 calls do not reach them, so a
 * caller is promised nothing here; yet no call may ever fail by itself, full rows included.
 */
public final class LimitsTest {
    public static void main(String[] args) {
        threeThousandBytes();
        theRefusedByteIsNotInTheText();
        mostWords();
        sixtyRules();
        twentyClasses();
        mostEditions();
        mostTermsAndItems();
        Check.end();
    }

    private static void threeThousandBytes() {
        HazardRules x = new HazardRules();
        Check.feed(x, "from 12" + " ".repeat(2993));
        Check.due("unit(32) behind 3000", x.unit(32), false);
        Check.due("unit(48) behind 3000", x.unit(48), false);
        Check.due("unit(256) behind 3000", x.unit(256), false);
        Check.due("read()", x.read(), 0);
        Check.due("edition(12)", x.edition(12), 0);
        Check.feed(x, "x".repeat(3000));
        Check.due("unit(32) behind 3000", x.unit(32), false);
        Check.due("read()", x.read(), -1);
        Check.due("unit(32) of an empty text", x.unit(32), true);
    }

    /** 'false when .. there are 3000' */
    private static void theRefusedByteIsNotInTheText() {
        HazardRules x = new HazardRules();
        Check.feed(x, "from " + " ".repeat(2993) + "1");
        Check.due("unit(256) behind 2999", x.unit(256), false);
        Check.due("unit('2'), the last", x.unit('2'), true);
        Check.due("unit('3') behind 3000", x.unit('3'), false);
        Check.due("read()", x.read(), 0);
        Check.due("edition(11)", x.edition(11), -1);
        Check.due("edition(12)", x.edition(12), 0);
        Check.due("write(6)", x.write(6), '2');
        Check.due("write(7)", x.write(7), -1);
        String longest = "from 1 class 1 when holds 1" + " and holds 1".repeat(247);
        Check.feed(x, longest + " ".repeat(3000 - 4 - longest.length()) + " end");
        Check.due("unit('x') behind 3000", x.unit('x'), false);
        Check.due("read()", x.read(), 1);
        Check.due("write(" + (longest.length() + 3) + ")", x.write(longest.length() + 3), 'd');
        Check.due("write(" + (longest.length() + 4) + ")", x.write(longest.length() + 4), -1);
        String full = longest.replace("from 1", "from 000001") + " end";
        Check.feed(x, full);
        Check.due("unit('x') behind 3000", x.unit('x'), false);
        Check.due("read() of 3000 bytes, no blank too many", x.read(), 1);
        for (int i = 0; i < 3000; i++) {
            Check.due("write(" + i + ")", x.write(i), full.charAt(i));
        }
        Check.due("write(3000)", x.write(3000), -1);
        Check.due("walk(1)", x.walk(1), 0);
        Check.due("table(0, 247)", x.table(0, 247), 1);
        Check.feed(x, "from 1 class 1 when sum plus 1 of 1" + " plus 1 of 1".repeat(246));
        Check.due("read(): more should come", x.read(), -1 - (10 + 4 * 246));
        Check.due("write(0): as before", x.write(0), 'f');
    }

    private static void mostWords() {
        HazardRules x = new HazardRules();
        Check.feed(x, "x ".repeat(1500));
        Check.due("read()", x.read(), -1);
        StringBuilder text = new StringBuilder("from 1 class 3 when sum");
        int words = 6;
        while (text.length() + 12 <= 3000) {
            text.append(" plus 0 of 0");
            words += 4;
        }
        Check.feed(x, text.toString());
        Check.due("read()", x.read(), -1 - words);
    }

    private static void sixtyRules() {
        String rules = "class 7 when test 0 is 0 end ".repeat(60);
        HazardRules x = Check.load(60, "from 1 " + rules);
        Check.due("run(1)", x.run(1), -1);
        Check.due("open(59, 0)", x.open(59, 0), 59);
        Check.due("open(60, 0)", x.open(60, 0), -1);
        x.test(0, 0);
        Check.due("walk(1)", x.walk(1), 1);
        Check.due("explain(7, 59, 0)", x.explain(7, 59, 0), 59);
        Check.due("explain(7, 60, 0)", x.explain(7, 60, 0), -1);
        Check.feed(x, "from 1 " + rules + "class");
        Check.due("read() of 61 rules", x.read(), -1 - 482);
        Check.due("explain(7, 59, 0): all is as before", x.explain(7, 59, 0), 59);
        Check.due("run(1): all is as before", x.run(1), 1);
        Check.due("read(): the text was emptied", x.read(), 0);
        Check.feed(x, "from 1 " + rules + "from 2");
        Check.due("read() of 60 rules and an edition", x.read(), 60);
        Check.feed(x, "from 1 " + rules + "from 2 class 7 when test 0 is 0 end");
        Check.due("read() of 61 rules", x.read(), -1 - 484);
    }

    private static void twentyClasses() {
        StringBuilder text = new StringBuilder("from 1");
        for (int c = 19; c >= 0; c--) {
            text.append(" class ").append(c).append(" when test 0 is 0 end");
        }
        HazardRules x = Check.load(20, text.toString());
        x.test(0, 0);
        Check.due("run(1)", x.run(1), 20);
        for (int k = 0; k < 20; k++) {
            Check.due("cls(" + k + ")", x.cls(k), k);
            Check.due("mark(" + k + ")", x.mark(k), 19 - k);
        }
        Check.due("cls(20)", x.cls(20), -1);
        Check.due("mark(20)", x.mark(20), -1);
    }

    private static void mostEditions() {
        StringBuilder text = new StringBuilder();
        int count = 0;
        while (text.length() + 9 <= 3000) {
            text.append("from ").append(count).append(' ');
            count++;
        }
        HazardRules x = Check.load(0, text.toString());
        Check.due("edition(max)", x.edition(Long.MAX_VALUE), count - 1);
        Check.due("run(5)", x.run(5), 0);
    }

    private static void mostTermsAndItems() {
        HazardRules x = Check.load(1, "from 0 class 1 when sum " + "plus 1000 of 0 ".repeat(190) + "over 0 end");
        x.part(0, 1000000, 1000000);
        Check.due("sum(0, 0, -1)", x.sum(0, 0, -1), 190L * 1000 * 1000000);
        Check.due("run(0)", x.run(0), 1);
        x = Check.load(1, "from 0 class 1 when " + "holds 1 and ".repeat(240) + "holds 1 end");
        Check.due("table(0, 240)", x.table(0, 240), 1);
        Check.due("walk(0)", x.walk(0), 0);
    }
}
