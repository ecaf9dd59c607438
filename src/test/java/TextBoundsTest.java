/**
 * The boundary cases of the text: what 'Terms' says of words, numbers, editions, rules, items and terms,
 * and promises 2, 3 and 20. A method for each sentence.
 */
public final class TextBoundsTest {
    private static final String RULE = "from 1 class 1 when ";

    public static void main(String[] args) {
        aByteIsOf0To255();
        wordsArePartedByBytes32And10Alone();
        wordsAreAsLongAsTheyCanBe();
        wordsAreNumberedFrom0();
        theTextMayHaveNoEditions();
        anEditionMayHaveNoRules();
        daysGrow();
        everyNumberHasItsBounds();
        aRuleHasOneItemAtLeast();
        andStandsBetweenItems();
        aSumHasOneTermAtLeast();
        cutAndByMayStandOnceInTheirOrder();
        linesGoThroughTheWholeText();
        theFirstWrongWordIsTold();
        everyPlaceHasItsWords();
        howManyWordsThereAreWhenMoreShouldCome();
        theTextIsEmptyBehindRead();
        nothingWasLookedAtBehindRead();
        factsAndTheWayStay();
        writtenWordsHaveOneBlankBetween();
        writeHasItsBounds();
        Check.end();
    }

    private static void reads(String text, int answer) {
        HazardRules x = new HazardRules();
        Check.feed(x, text);
        Check.due("read() of '" + text + "'", x.read(), answer);
    }

    /** 'One more byte of the text, 0 .. 255. Answers true; false when it is not such' */
    private static void aByteIsOf0To255() {
        HazardRules x = new HazardRules();
        Check.due("unit(-1)", x.unit(-1), false);
        Check.due("unit(0)", x.unit(0), true);
        Check.due("unit(255)", x.unit(255), true);
        Check.due("unit(256)", x.unit(256), false);
        Check.due("unit(min)", x.unit(Integer.MIN_VALUE), false);
        Check.due("unit(max)", x.unit(Integer.MAX_VALUE), false);
        Check.due("read(): the two bytes are a word", x.read(), -1);
    }

    /** 'rows of other bytes than 32 and 10' */
    private static void wordsArePartedByBytes32And10Alone() {
        for (char b = 0; b < 256; b++) {
            boolean gap = b == 32 || b == 10;
            boolean digit = b >= '0' && b <= '9';
            reads("from" + b + "7", gap ? 0 : -1);
            reads(b + "from 7", gap ? 0 : -1);
            reads("from 7" + b, gap || digit ? 0 : -2);
            reads("from " + b, gap ? -2 : digit ? 0 : -2);
        }
    }

    /** 'as long as they can be' */
    private static void wordsAreAsLongAsTheyCanBe() {
        reads("fromfrom 7", -1);
        reads("from 7from 8", -2);
        reads("from 7 8", -3);
        reads("from 78", 0);
        reads("fr om 7", -1);
    }

    /** 'numbered from 0 on' (gaps before, between and behind count for nothing) */
    private static void wordsAreNumberedFrom0() {
        reads("x", -1);
        reads("\n \n x", -1);
        reads("from x", -2);
        reads(" from \n\n  x \n", -2);
        reads("from  7   x", -3);
        HazardRules x = Check.load(1, "\n\n from \n 1  class 1 when holds 1 and test 0 is 0 end ");
        x.test(0, 0);
        Check.due("run(1)", x.run(1), 0);
        x = Check.load(1, "\n\n from \n 1  class 1 when test 0 is 0 end ");
        x.test(0, 0);
        Check.due("run(1)", x.run(1), 1);
        Check.due("explain(1, 0, 2)", x.explain(1, 0, 2), 2);
    }

    /** 'EDITIONS, perhaps none' */
    private static void theTextMayHaveNoEditions() {
        reads("", 0);
        reads(" ", 0);
        reads("\n", 0);
        reads("class 1 when holds 1 end", -1);
    }

    /** 'and RULES, perhaps none' */
    private static void anEditionMayHaveNoRules() {
        reads("from 1", 0);
        reads("from 1 from 2", 0);
        reads("from 1 from 2 class 1 when holds 1 end from 3", 1);
    }

    /** 'its DAY, greater than that of the edition before' */
    private static void daysGrow() {
        int[] days = {0, 1, 4, 5, 6, 999999998, 999999999};
        for (int one : days) {
            for (int two : days) {
                reads("from " + one + " from " + two, two > one ? 0 : -4);
                reads("from " + one + " class 1 when holds 1 end from " + two, two > one ? 1 : -10);
            }
        }
        reads("from 1 from 5 from 3", -6);
        reads("from 1 from 5 from 5", -6);
        reads("from 1 from 5 from 6", 0);
    }

    private static void everyNumberHasItsBounds() {
        number("from ", "", 999999999);
        number("from 1 class ", " when holds 1 end", 19);
        number(RULE + "holds ", " end", 19);
        number(RULE + "test ", " is 1 end", 7);
        number(RULE + "test ", " not 1 end", 7);
        number(RULE + "test 1 is ", " end", 9);
        number(RULE + "test 1 not ", " end", 9);
        number(RULE + "sum plus ", " of 1 over 1 end", 1000);
        number(RULE + "sum minus ", " of 1 over 1 end", 1000);
        number(RULE + "sum plus 1 of ", " over 1 end", 15);
        number(RULE + "sum minus 1 of ", " over 1 end", 15);
        number(RULE + "sum plus 1 of 1 cut ", " over 1 end", 999999999);
        number(RULE + "sum plus 1 of 1 by ", " over 1 end", 999);
        number(RULE + "sum plus 1 of 1 cut 1 by ", " over 1 end", 999);
        number(RULE + "sum plus 1 of 1 over ", " end", 999999999);
        number(RULE + "sum plus 1 of 1 under ", " end", 999999999);
    }

    /** 'A NUMBER is a word of one to nine digits', of 0 up to what may stand in that place at most. */
    private static void number(String before, String behind, int most) {
        int rules = behind.isEmpty() ? 0 : 1;
        int refused = -1 - before.split(" ").length;
        reads(before + "0" + behind, rules);
        reads(before + most + behind, rules);
        reads(before + String.format("%09d", 0) + behind, rules);
        reads(before + String.format("%09d", most) + behind, rules);
        reads(before + (most + 1L) + behind, refused);
        reads(before + String.format("%010d", 0) + behind, refused);
        reads(before + String.format("%010d", most) + behind, refused);
        reads(before + "4294967296" + behind, refused);
        reads(before + "4294967297" + behind, refused);
        reads(before + "18446744073709551616" + behind, refused);
        for (String none : new String[] {"-1", "-0", "+0", "0x", "x0", "/", ":", "0/", "0:", "0.0", "1e0", "\u00b2", "\u0000"}) {
            reads(before + none + behind, refused);
        }
        reads(before + behind, refused);
    }

    /** 'ITEMS with the word and between them (one at least)' */
    private static void aRuleHasOneItemAtLeast() {
        reads(RULE + "end", -6);
        reads(RULE + "holds 1 end", 1);
        reads(RULE, -6);
    }

    /** 'ITEMS with the word and between them' */
    private static void andStandsBetweenItems() {
        reads(RULE + "holds 1 and holds 1 end", 1);
        reads(RULE + "holds 1 and test 1 is 1 and sum plus 1 of 1 over 1 end", 1);
        reads(RULE + "and holds 1 end", -6);
        reads(RULE + "holds 1 and end", -9);
        reads(RULE + "holds 1 and and holds 1 end", -9);
        reads(RULE + "holds 1 holds 1 end", -8);
        reads(RULE + "test 1 is 1 test 1 is 1 end", -10);
        reads(RULE + "sum plus 1 of 1 over 1 sum plus 1 of 1 over 1 end", -13);
    }

    /** 'sum, TERMS (one at least), over or under, a number' */
    private static void aSumHasOneTermAtLeast() {
        reads(RULE + "sum over 1 end", -7);
        reads(RULE + "sum under 1 end", -7);
        reads(RULE + "sum end", -7);
        reads(RULE + "sum plus 1 of 1 over 1 end", 1);
        reads(RULE + "sum plus 1 of 1 minus 1 of 1 under 1 end", 1);
        reads(RULE + "sum plus 1 of 1 end", -11);
        reads(RULE + "sum plus 1 of 1 over 1 under 1 end", -13);
    }

    /** 'then perhaps cut and a number; then perhaps by and a number' */
    private static void cutAndByMayStandOnceInTheirOrder() {
        reads(RULE + "sum plus 1 of 1 cut 1 over 1 end", 1);
        reads(RULE + "sum plus 1 of 1 by 1 over 1 end", 1);
        reads(RULE + "sum plus 1 of 1 cut 1 by 1 over 1 end", 1);
        reads(RULE + "sum plus 1 of 1 cut 1 by 1 plus 1 of 1 cut 1 by 1 over 1 end", 1);
        reads(RULE + "sum plus 1 of 1 by 1 cut 1 over 1 end", -13);
        reads(RULE + "sum plus 1 of 1 cut 1 cut 1 over 1 end", -13);
        reads(RULE + "sum plus 1 of 1 by 1 by 1 over 1 end", -13);
        reads(RULE + "sum plus 1 of 1 cut 1 by 1 cut 1 over 1 end", -15);
        reads(RULE + "sum cut 1 plus 1 of 1 over 1 end", -7);
        reads(RULE + "sum plus 1 of 1 over 1 by 1 end", -13);
    }

    /** 'Rules are numbered from 0 on through the whole text' */
    private static void linesGoThroughTheWholeText() {
        HazardRules x = Check.load(4, "from 1 class 1 when test 0 is 0 end class 2 when test 0 is 0 end"
                + " from 2 from 3 class 1 when test 0 is 0 end class 2 when test 0 is 0 end");
        x.test(0, 0);
        Check.due("run(1)", x.run(1), 2);
        Check.due("explain(1, 0, 0)", x.explain(1, 0, 0), 0);
        Check.due("explain(2, 0, 0)", x.explain(2, 0, 0), 1);
        Check.due("run(3)", x.run(3), 2);
        Check.due("explain(1, 0, 0)", x.explain(1, 0, 0), 2);
        Check.due("explain(2, 0, 0)", x.explain(2, 0, 0), 3);
    }

    /** '-1 less the number of the first word that cannot stand where it does' */
    private static void theFirstWrongWordIsTold() {
        reads("x y z", -1);
        reads("from x y", -2);
        reads("from 1 x from y", -3);
        reads("from 2 from 1 from 0", -4);
        reads("from 1 class 20 when holds 20 end", -4);
        reads(RULE + "holds 20 and holds 20 end", -7);
        reads(RULE + "holds 1 end x", -9);
    }

    private static final String[] WORDS = {
        "from", "class", "when", "and", "end", "test", "is", "not", "holds", "sum", "over", "under", "plus", "minus",
        "of", "cut", "by", "0", "1"
    };

    /** What 'Terms' lets stand behind each beginning; every other word is refused there. */
    private static void everyPlaceHasItsWords() {
        place("", "from");
        place("from ", "0 1");
        place("from 1 ", "from class");
        place("from 1 class ", "0 1");
        place("from 1 class 1 ", "when");
        place(RULE, "test holds sum");
        place(RULE + "test ", "0 1");
        place(RULE + "test 1 ", "is not");
        place(RULE + "test 1 is ", "0 1");
        place(RULE + "test 1 not ", "0 1");
        place(RULE + "test 1 is 1 ", "and end");
        place(RULE + "holds ", "0 1");
        place(RULE + "holds 1 ", "and end");
        place(RULE + "holds 1 and ", "test holds sum");
        place(RULE + "holds 1 end ", "class from");
        place(RULE + "sum ", "plus minus");
        place(RULE + "sum plus ", "0 1");
        place(RULE + "sum minus ", "0 1");
        place(RULE + "sum plus 1 ", "of");
        place(RULE + "sum plus 1 of ", "0 1");
        place(RULE + "sum plus 1 of 1 ", "cut by plus minus over under");
        place(RULE + "sum plus 1 of 1 cut ", "0 1");
        place(RULE + "sum plus 1 of 1 cut 1 ", "by plus minus over under");
        place(RULE + "sum plus 1 of 1 by ", "0 1");
        place(RULE + "sum plus 1 of 1 by 1 ", "plus minus over under");
        place(RULE + "sum plus 1 of 1 cut 1 by 1 ", "plus minus over under");
        place(RULE + "sum plus 1 of 1 over ", "0 1");
        place(RULE + "sum plus 1 of 1 under ", "0 1");
        place(RULE + "sum plus 1 of 1 over 1 ", "and end");
    }

    private static void place(String before, String allowed) {
        int number = before.isEmpty() ? 0 : before.split(" ").length;
        for (String word : WORDS) {
            boolean stands = java.util.List.of(allowed.split(" ")).contains(word);
            HazardRules x = new HazardRules();
            Check.feed(x, before + word);
            boolean refused = x.read() == -1 - number;
            Check.due("'" + word + "' may stand behind '" + before + "'", !refused, stands);
            reads(before + word + "x", -1 - number);
            reads(before + word.substring(1) + "_", -1 - number);
            reads(before + word.toUpperCase() + "X", -1 - number);
        }
    }

    /** '(how many words there are, when more should come)' */
    private static void howManyWordsThereAreWhenMoreShouldCome() {
        String[] words = (RULE + "sum plus 1 of 1 cut 1 by 1 over 1 and test 1 is 1 and holds 1 end").split(" ");
        StringBuilder text = new StringBuilder();
        for (int n = 0; n < words.length; n++) {
            reads(text.toString(), n == 0 || n == 2 ? 0 : -1 - n);
            reads(text + " \n", n == 0 || n == 2 ? 0 : -1 - n);
            text.append(n == 0 ? "" : " ").append(words[n]);
        }
        reads(text.toString(), 1);
        nothingComesFromALongerTextBefore(text.toString(), words);
    }

    private static void nothingComesFromALongerTextBefore(String whole, String[] words) {
        String text = "";
        for (int n = 0; n < words.length; n++) {
            HazardRules x = Check.load(1, whole);
            Check.feed(x, text);
            Check.due("read() of '" + text + "' behind the whole", x.read(), n == 0 || n == 2 ? 0 : -1 - n);
            text = n == 0 ? words[0] : text + " " + words[n];
        }
    }

    /** 'Reads the text, which is empty then' */
    private static void theTextIsEmptyBehindRead() {
        HazardRules x = Check.load(0, "from 1");
        Check.due("read() of an empty text", x.read(), 0);
        Check.due("edition(1): no editions", x.edition(1), -1);
        Check.feed(x, "from");
        Check.due("read() of 'from'", x.read(), -2);
        Check.feed(x, " 5");
        Check.due("read() of ' 5'", x.read(), -1);
        Check.due("read() of an empty text", x.read(), 0);
    }

    /** 'its rules are the ones now; nothing was looked at' */
    private static void nothingWasLookedAtBehindRead() {
        String text = "from 1 class 2 when test 0 is 0 end class 3 when sum plus 1 of 1 over 6 end";
        HazardRules x = Check.load(2, text);
        x.test(0, 0);
        Check.due("run(1)", x.run(1), -2);
        Check.due("limit(3)", x.limit(3), 6);
        Check.feed(x, text);
        Check.due("read() of the same text", x.read(), 2);
        Check.due("cls(0)", x.cls(0), -1);
        Check.due("mark(0)", x.mark(0), -1);
        Check.due("moving()", x.moving(), -1);
        Check.due("open(0, 0)", x.open(0, 0), -1);
        Check.due("missing(0)", x.missing(0), -1);
        Check.due("explain(2, 0, 0)", x.explain(2, 0, 0), -1);
        Check.due("limit(3)", x.limit(3), -1);
        Check.due("run(1)", x.run(1), -2);
        Check.due("read() of an empty text", x.read(), 0);
        Check.due("cls(0)", x.cls(0), -1);
        Check.due("missing(0)", x.missing(0), -1);
        Check.due("limit(3)", x.limit(3), -1);
    }

    /** '(facts and the way stay)' */
    private static void factsAndTheWayStay() {
        HazardRules x = new HazardRules();
        x.part(0, 1, 2);
        x.part(15, 3, 4);
        x.test(0, 9);
        x.test(7, 0);
        x.way(false);
        Check.feed(x, "from 1 class 1 when test 0 is 9 and test 7 is 0 end class 2 when sum plus 1 of 0 plus 1 of 15 over 4 end");
        Check.due("read()", x.read(), 2);
        Check.due("sum(1, 0, -1)", x.sum(1, 0, -1), 4);
        Check.due("sum(1, 1, -1)", x.sum(1, 1, -1), 6);
        Check.due("run(1): class 1, and not class 2 at low", x.run(1), 1);
        Check.due("cls(0)", x.cls(0), 1);
        Check.due("way(true)", x.way(true), false);
        Check.due("run(1)", x.run(1), 2);
    }

    /** 'its words with one blank between' */
    private static void writtenWordsHaveOneBlankBetween() {
        String[] texts = {"from 1 from 2", " from 1 from 2", "from 1 from 2 ", "\nfrom\n1\nfrom\n2\n", "from   1 \n from\n \n2  "};
        for (String text : texts) {
            isWritten(Check.load(0, text), "from 1 from 2");
        }
        isWritten(Check.load(0, "from 000000001"), "from 000000001");
        isWritten(Check.load(0, " \n "), "");
    }

    private static void isWritten(HazardRules x, String text) {
        for (int i = 0; i < text.length(); i++) {
            Check.due("write(" + i + ") of '" + text + "'", x.write(i), text.charAt(i));
        }
        Check.due("write(" + text.length() + ") of '" + text + "'", x.write(text.length()), -1);
    }

    /** 'Byte i of the rules' text ..; NONE when there is none such' */
    private static void writeHasItsBounds() {
        HazardRules x = Check.load(0, "from 12345");
        Check.due("write(-1)", x.write(-1), -1);
        Check.due("write(0)", x.write(0), 'f');
        Check.due("write(9)", x.write(9), '5');
        Check.due("write(10)", x.write(10), -1);
        Check.due("write(2999)", x.write(2999), -1);
        Check.due("write(3000)", x.write(3000), -1);
        Check.due("write(min)", x.write(Integer.MIN_VALUE), -1);
        Check.due("write(max)", x.write(Integer.MAX_VALUE), -1);
        Check.feed(x, "from 1");
        Check.due("read() of a shorter text", x.read(), 0);
        Check.due("write(5)", x.write(5), '1');
        Check.due("write(6): nothing of the longer one is left", x.write(6), -1);
    }
}
