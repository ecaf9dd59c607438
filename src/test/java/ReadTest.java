/** Promise 3: reads the text; the number of rules, or the first word that cannot stand where it does. */
public final class ReadTest {
    private static final String HEAD = "from 1 class 3 when ";

    public static void main(String[] args) {
        editions();
        gapsAndWords();
        numbers();
        rules();
        testAndHoldsItems();
        sums();
        cutAndBy();
        everyCutOffTextWantsMore();
        everyStrangeWordIsTold();
        aReadTextReplacesWhatWas();
        aWrongTextLeavesWhatWas();
        Check.end();
    }

    private static void reads(String text, int answer) {
        HazardRules x = new HazardRules();
        Check.feed(x, text);
        Check.due("read() of '" + text + "'", x.read(), answer);
    }

    /** HEAD has five words, so word k of the rest is word 5 + k of the text. */
    private static void refusesWord(int k, String rest) {
        reads(HEAD + rest, -1 - (5 + k));
    }

    private static void takes(String items) {
        reads(HEAD + items + " end", 1);
    }

    private static void editions() {
        reads("", 0);
        reads("from 0", 0);
        reads("from 1 from 2 from 30", 0);
        reads("from", -2);
        reads("from 1 from", -4);
        reads("from x", -2);
        reads("from from", -2);
        reads("from 1 1", -3);
        reads("from 3 from 3", -4);
        reads("from 3 from 2", -4);
        reads("from 1 from 2 from 2", -6);
        reads("from 999999999 from 999999999", -4);
        reads("From 1", -1);
        reads("fro 1", -1);
        reads("froms 1", -1);
        reads("5 from", -1);
    }

    private static void gapsAndWords() {
        reads("  \n \n\n", 0);
        reads("\n  from\n\n7 \n", 0);
        reads("from\t1", -1);
        reads("from 1\r", -2);
        reads("from 1\u0000", -2);
        reads("from 1 \u00e9", -3);
        reads("from 1 \u008a", -3);
        reads("from 1 \u00a0", -3);
        reads("\n\n x", -1);
    }

    private static void numbers() {
        reads("from 000000000", 0);
        reads("from 0000000000", -2);
        reads("from 999999999", 0);
        reads("from 1000000000", -2);
        reads("from 4294967297", -2);
        reads("from -1", -2);
        reads("from +1", -2);
        reads("from 1a", -2);
        reads("from a1", -2);
        reads("from 1/", -2);
        reads("from 1:", -2);
        reads("from 09 from 10", 0);
        reads("from 10 from 09", -4);
    }

    private static void rules() {
        reads("class 1 when holds 1 end", -1);
        reads("from 1 class 0 when holds 1 end", 1);
        reads("from 1 class 19 when holds 1 end", 1);
        reads("from 1 class 0019 when holds 1 end", 1);
        reads("from 1 class 20 when holds 1 end", -4);
        reads("from 1 class when holds 1 end", -4);
        reads("from 1 class from 2", -4);
        reads("from 1 class class 1 when holds 1 end", -4);
        reads("from 1 class 1 holds 1 end", -5);
        reads("from 1 class 1 from 2", -5);
        reads("from 1 class 1 class 1 when holds 1 end", -5);
        reads("from 1 class 1 when end", -6);
        reads("from 1 class 1 when holds 1 end end", -9);
        reads("from 1 class 1 when holds 1 end and holds 1 end", -9);
        reads("from 1 class 1 when holds 1 end when", -9);
        reads("from 1 class 1 when holds 1 end class 1 when holds 1 end from 2 class 1 when holds 1 end", 3);
        reads("from 1 class 1 when holds 1 end from 1", -10);
        reads("from 1 class 1 when holds 1 from 2", -8);
    }

    private static void testAndHoldsItems() {
        takes("holds 0");
        takes("holds 19");
        takes("holds 3 and holds 3 and test 0 is 0");
        refusesWord(1, "holds 20 end");
        refusesWord(1, "holds end");
        refusesWord(2, "holds 3 holds 3 end");
        refusesWord(3, "holds 3 and end");
        refusesWord(3, "holds 3 and and holds 3 end");
        takes("test 0 is 0");
        takes("test 7 not 9");
        refusesWord(1, "test 8 is 1 end");
        refusesWord(1, "test is 1 end");
        refusesWord(2, "test 7 are 1 end");
        refusesWord(2, "test 7 1 end");
        refusesWord(3, "test 7 is 10 end");
        refusesWord(3, "test 7 not 10 end");
        refusesWord(3, "test 7 is not 1 end");
        refusesWord(0, "tests 7 is 1 end");
        refusesWord(0, "class 7 end");
    }

    private static void sums() {
        takes("sum plus 0 of 0 over 0");
        takes("sum minus 1000 of 15 under 999999999");
        takes("sum plus 1 of 2 minus 3 of 4 plus 5 of 2 over 6 and holds 1");
        refusesWord(1, "sum over 3 end");
        refusesWord(1, "sum 1 of 2 over 3 end");
        refusesWord(2, "sum plus 1001 of 1 over 3 end");
        refusesWord(2, "sum minus 1001 of 1 over 3 end");
        refusesWord(2, "sum plus of 1 over 3 end");
        refusesWord(3, "sum plus 1 on 1 over 3 end");
        refusesWord(3, "sum plus 1 1 over 3 end");
        refusesWord(4, "sum plus 1 of 16 over 3 end");
        refusesWord(4, "sum plus 1 of over 3 end");
        refusesWord(5, "sum plus 1 of 1 end");
        refusesWord(5, "sum plus 1 of 1 and holds 1 end");
        refusesWord(5, "sum plus 1 of 1 is 3 end");
        refusesWord(6, "sum plus 1 of 1 over end");
        refusesWord(6, "sum plus 1 of 1 over 1000000000 end");
        refusesWord(6, "sum plus 1 of 1 under under 3 end");
        refusesWord(7, "sum plus 1 of 1 over 3 plus 1 of 1 end");
    }

    private static void cutAndBy() {
        takes("sum plus 1 of 1 cut 0 over 3");
        takes("sum plus 1 of 1 cut 999999999 by 0 over 3");
        takes("sum plus 1 of 1 by 999 minus 1 of 1 cut 3 under 3");
        refusesWord(6, "sum plus 1 of 1 cut over 3 end");
        refusesWord(6, "sum plus 1 of 1 cut 1000000000 over 3 end");
        refusesWord(6, "sum plus 1 of 1 by over 3 end");
        refusesWord(6, "sum plus 1 of 1 by 1000 over 3 end");
        refusesWord(8, "sum plus 1 of 1 cut 1 by 1000 over 3 end");
        refusesWord(6, "sum plus 1 of 1 cut by 1 over 3 end");
        refusesWord(7, "sum plus 1 of 1 by 2 cut 3 over 3 end");
        refusesWord(7, "sum plus 1 of 1 by 2 by 3 over 3 end");
        refusesWord(7, "sum plus 1 of 1 cut 2 cut 3 over 3 end");
        refusesWord(3, "sum plus 1 cut 1 of 1 over 3 end");
    }

    private static final String ALL_KINDS = "from 1 class 3 when sum plus 1 of 1 cut 2 by 3 minus 1 of 2 over 4"
            + " and test 1 not 2 and holds 5 end from 2 class 4 when test 1 is 2 end";

    private static void everyCutOffTextWantsMore() {
        String[] words = ALL_KINDS.split(" ");
        StringBuilder text = new StringBuilder();
        for (int n = 0; n < words.length; n++) {
            // Whole are: nothing, an edition, a rule behind it, the next edition.
            int answer = n == 0 || n == 2 ? 0 : n == 29 || n == 31 ? 1 : -1 - n;
            reads(text.toString(), answer);
            text.append(n == 0 ? "" : " ").append(words[n]);
        }
        reads(text.toString(), 2);
    }

    private static void everyStrangeWordIsTold() {
        String[] words = ALL_KINDS.split(" ");
        for (int n = 0; n < words.length; n++) {
            String[] others = words.clone();
            others[n] = words[n] + "x";
            reads(String.join(" ", others), -1 - n);
        }
    }

    private static void aReadTextReplacesWhatWas() {
        HazardRules x = Check.load(2, "from 5 class 1 when test 0 is 0 end class 2 when test 0 not 0 end");
        Check.due("test(0, 0)", x.test(0, 0), true);
        Check.due("part(1, 2, 3)", x.part(1, 2, 3), true);
        Check.due("way(false)", x.way(false), true);
        Check.due("run(5)", x.run(5), 1);
        Check.feed(x, "from 6 class 3 when sum plus 1 of 1 over 2 end");
        Check.due("read()", x.read(), 1);
        Check.due("cls(0) behind read()", x.cls(0), -1);
        Check.due("mark(0) behind read()", x.mark(0), -1);
        Check.due("moving() behind read()", x.moving(), -1);
        Check.due("explain(1, 0, 0) behind read()", x.explain(1, 0, 0), -1);
        Check.due("limit(3) behind read()", x.limit(3), -1);
        Check.due("edition(5) behind read()", x.edition(5), -1);
        Check.due("edition(6) behind read()", x.edition(6), 0);
        Check.due("sum(0, 1, -1): the span stays", x.sum(0, 1, -1), 3);
        Check.due("run(6): the way stays", x.run(6), 0);
        Check.due("way(true): the way stays", x.way(true), false);
        Check.due("run(6) strictly", x.run(6), 1);
        Check.due("read(): the text is empty", x.read(), 0);
        Check.due("cls(0) behind read()", x.cls(0), -1);
        Check.due("edition(6) without rules", x.edition(6), -1);
        Check.due("run(6) without rules", x.run(6), 0);
        Check.due("write(0) without rules", x.write(0), -1);
        Check.feed(x, "from 0 class 7 when test 0 is 0 end");
        Check.due("read()", x.read(), 1);
        Check.due("run(0): the result stays", x.run(0), 1);
    }

    private static void aWrongTextLeavesWhatWas() {
        HazardRules x = Check.load(2, "from 5 class 1 when test 0 is 0 end class 2 when sum plus 1 of 3 over 8 end");
        x.test(0, 0);
        Check.due("run(5)", x.run(5), -2);
        Check.feed(x, "from 1 class 4 when test 0 is 0 end from 0");
        Check.due("read() of a wrong text", x.read(), -12);
        Check.due("cls(0) as before", x.cls(0), 1);
        Check.due("mark(0) as before", x.mark(0), 1);
        Check.due("open(0, 0) as before", x.open(0, 0), 1);
        Check.due("missing(0) as before", x.missing(0), 3);
        Check.due("explain(1, 0, 2) as before", x.explain(1, 0, 2), 2);
        Check.due("limit(2) as before", x.limit(2), 8);
        Check.due("edition(4) as before", x.edition(4), -1);
        Check.due("table(1, 0) as before", x.table(1, 0), 2);
        Check.due("write(5) as before", x.write(5), '5');
        Check.due("walk(5) as before", x.walk(5), -2);
        Check.feed(x, "from");
        Check.due("read(): the text was emptied", x.read(), -2);
        Check.feed(x, "from 9");
        Check.due("read(): the text was emptied", x.read(), 0);
    }
}
