/**
 * The boundary cases of looking at rules: what 'Terms' says of items, rules, tests that win and open
 * rules, and promises 9 and 10. A method for each sentence; all is asked of run() and of walk().
 */
public final class LookBoundsTest {
    private static final int SO = 1;
    private static final int NOT_SO = 0;
    private static final int OPEN = -1;

    public static void main(String[] args) {
        aTestIsOpenWithoutResult();
        aTestIsOrIsNotItsNumber();
        holdsAsksRulesLookedAtBefore();
        holdsIsSoBeforeItIsOpen();
        holdsIsOpenByEveryLack();
        holdsIsNotSoByRulesPassedOver();
        holdsAsksForClasses0To19();
        aSumIsOpenInOrderOfTerms();
        strictOverAtHighUnderAtLow();
        notStrictOverAtLowUnderAtHigh();
        numbersOfSumsAtTheirEnds();
        aRuleIsNotSoElseOpenElseSo();
        testsWinWhenAllHaveResults();
        testsWinInTheirClassAndEdition();
        testsWinOverRulesWithoutTestsAlone();
        openRulesAreOfClassesThatDoNotHoldInTheEnd();
        whatRulesLack();
        runCountsEachClassOnce();
        runTellsTheFirstOpenLine();
        noEditionThatActsNoClassHolds();
        whatIsAskedIsOfTheLatestLook();
        walkLeavesTheSame();
        Check.end();
    }

    private static void looks(String name, HazardRules x, long day, int answer) {
        Check.due("run(" + day + "): " + name, x.run(day), answer);
        Check.due("walk(" + day + "): " + name, x.walk(day), answer);
    }

    /** Reads a rule of one item and looks at it, by the facts of x. */
    private static void item(HazardRules x, String item, int answer) {
        Check.feed(x, "from 0 class 1 when " + item + " end");
        Check.due("read() of " + item, x.read(), 1);
        looks(item, x, 0, answer);
    }

    /** 'test is OPEN when the test has no result' */
    private static void aTestIsOpenWithoutResult() {
        HazardRules x = new HazardRules();
        item(x, "test 0 is 0", OPEN);
        item(x, "test 7 not 9", OPEN);
        x.test(0, 0);
        x.test(7, 9);
        item(x, "test 0 is 0", SO);
        item(x, "test 7 not 9", NOT_SO);
        x.test(0, HazardRules.NONE);
        item(x, "test 0 is 0", OPEN);
    }

    /** 'else is: it is that number, not: it is not' */
    private static void aTestIsOrIsNotItsNumber() {
        for (int result : new int[] {0, 1, 8, 9}) {
            HazardRules x = new HazardRules();
            x.test(3, result);
            for (int number : new int[] {0, 1, 8, 9}) {
                item(x, "test 3 is " + number, result == number ? SO : NOT_SO);
                item(x, "test 3 not " + number, result == number ? NOT_SO : SO);
            }
        }
    }

    /** 'when a rule that was looked at before is SO and has that class' */
    private static void holdsAsksRulesLookedAtBefore() {
        HazardRules x = Check.load(2, "from 0 class 1 when test 0 is 0 end class 2 when holds 1 end");
        x.test(0, 0);
        looks("the rule before", x, 0, 2);
        x = Check.load(2, "from 0 class 2 when holds 1 end class 1 when test 0 is 0 end");
        x.test(0, 0);
        looks("the rule behind", x, 0, 1);
        looks("the rule behind, again", x, 0, 1);
        Check.due("cls(0)", x.cls(0), 1);
        x.clearParts();
        looks("nor is it open by the rule behind", x, 0, -2);
        Check.due("open(1, 0)", x.open(1, 0), -1);
        x = Check.load(1, "from 0 class 1 when holds 1 end");
        looks("the rule itself", x, 0, 0);
        x = Check.load(2, "from 0 class 1 when test 0 is 0 end from 1 class 2 when holds 1 end");
        x.test(0, 0);
        looks("the first edition", x, 0, 1);
        looks("a rule of another edition", x, 1, 0);
    }

    /** 'SO ..; else OPEN when one of that class was OPEN; else NOT SO' */
    private static void holdsIsSoBeforeItIsOpen() {
        HazardRules x = Check.load(3, "from 0 class 1 when test 0 is 0 end class 1 when test 1 is 0 end class 2 when holds 1 end");
        int[] results = {0, 1, -1};
        for (int one : results) {
            for (int two : results) {
                x.test(0, one);
                x.test(1, two);
                boolean so = one == 0 || two == 0;
                boolean open = !so && (one == -1 || two == -1);
                looks("tests " + one + " and " + two, x, 0, so ? 2 : !open ? 0 : one == -1 ? -1 : -2);
                int last = one == -1 && two == -1 ? 2 : 1;
                Check.due("open(" + last + ", 0)", x.open(last, 0), open ? 2 : -1);
                Check.due("open(" + last + ", 2)", x.open(last, 2), open ? 301 : -1);
            }
        }
    }

    /** 'OPEN when one of that class was OPEN', whatever that one lacks */
    private static void holdsIsOpenByEveryLack() {
        String[] items = {"sum plus 1 of 0 over 0", "sum plus 1 of 15 over 0", "sum plus 1 of 3 by 0 over 0", "test 0 is 0",
            "test 7 is 0", "holds 0", "holds 19"};
        int[] lacks = {0, 15, 203, 100, 107, 300, 319};
        for (int i = 0; i < items.length; i++) {
            HazardRules x = Check.load(4, "from 0 class 0 when test 5 is 0 end class 19 when test 5 is 0 end"
                    + " class 7 when " + items[i] + " end class 8 when holds 7 end");
            x.part(3, 0, 0);
            looks(items[i], x, 0, -1);
            Check.due("open(2, 2) of " + items[i], x.open(2, 2), lacks[i]);
            Check.due("open(3, 2) of " + items[i], x.open(3, 2), 307);
        }
    }

    /** 'PASSED OVER: neither SO nor OPEN nor NOT SO' */
    private static void holdsIsNotSoByRulesPassedOver() {
        HazardRules x = Check.load(3, "from 0 class 1 when sum plus 1 of 0 over 0 end class 1 when test 0 is 0 end"
                + " class 2 when holds 1 end");
        x.test(0, 1);
        looks("the open sum is passed over", x, 0, 0);
        Check.due("open(0, 0)", x.open(0, 0), -1);
        x.part(0, 1, 1);
        looks("the sum that is SO is passed over", x, 0, 0);
        x.test(0, -1);
        looks("it is not any more", x, 0, 2);
        x.test(0, 0);
        looks("the test itself is SO", x, 0, 2);
        Check.due("explain(1, 0, 0)", x.explain(1, 0, 0), 1);
        Check.due("explain(1, 1, 0)", x.explain(1, 1, 0), -1);
    }

    private static void holdsAsksForClasses0To19() {
        for (int cls : new int[] {0, 1, 18, 19}) {
            HazardRules x = Check.load(2, "from 0 class " + cls + " when test 0 is 0 end class 5 when holds " + cls + " end");
            looks("holds " + cls, x, 0, -1);
            Check.due("open(1, 2)", x.open(1, 2), 300 + cls);
            x.test(0, 0);
            looks("holds " + cls, x, 0, 2);
            x.test(0, 1);
            looks("holds " + cls, x, 0, 0);
        }
    }

    private static void lacks(String item, int lack) {
        HazardRules x = new HazardRules();
        x.part(2, 0, 0);
        x.part(3, 1, 1);
        item(x, item, OPEN);
        Check.due("open(0, 2) of " + item, x.open(0, 2), lack);
    }

    /** 'OPEN when a part of it has no span, or by is 0 (in order of terms; of a term the span first)' */
    private static void aSumIsOpenInOrderOfTerms() {
        lacks("sum plus 1 of 0 over 0", 0);
        lacks("sum plus 1 of 15 over 0", 15);
        lacks("sum plus 1 of 15 plus 1 of 0 over 0", 15);
        lacks("sum plus 1 of 3 plus 1 of 0 over 0", 0);
        lacks("sum plus 1 of 3 by 0 over 0", 203);
        lacks("sum plus 0 of 2 by 0 under 999999999", 202);
        lacks("sum plus 1 of 2 cut 999999999 by 0 over 0", 202);
        lacks("sum plus 1 of 0 by 0 over 0", 0);
        lacks("sum plus 1 of 3 by 0 plus 1 of 0 over 0", 203);
        lacks("sum plus 1 of 0 plus 1 of 3 by 0 over 0", 0);
        lacks("sum plus 1 of 3 by 0 plus 1 of 2 by 0 over 0", 203);
        lacks("sum minus 0 of 7 over 0", 7);
        HazardRules x = new HazardRules();
        x.part(3, 1, 1);
        item(x, "sum plus 1 of 3 by 1 over 0", SO);
        item(x, "sum plus 1 of 3 cut 0 over 0", SO);
    }

    /** 'when strict, if for over its sum at high is greater than the number, for under its sum at low is less' */
    private static void strictOverAtHighUnderAtLow() {
        HazardRules x = new HazardRules();
        x.part(0, 10, 20);
        item(x, "sum plus 1 of 0 over 19", SO);
        item(x, "sum plus 1 of 0 over 20", NOT_SO);
        item(x, "sum plus 1 of 0 over 21", NOT_SO);
        item(x, "sum plus 1 of 0 under 9", NOT_SO);
        item(x, "sum plus 1 of 0 under 10", NOT_SO);
        item(x, "sum plus 1 of 0 under 11", SO);
    }

    /** 'when not strict, if for over its sum at low is greater, for under its sum at high is less' */
    private static void notStrictOverAtLowUnderAtHigh() {
        HazardRules x = new HazardRules();
        x.part(0, 10, 20);
        x.way(false);
        item(x, "sum plus 1 of 0 over 9", SO);
        item(x, "sum plus 1 of 0 over 10", NOT_SO);
        item(x, "sum plus 1 of 0 over 11", NOT_SO);
        item(x, "sum plus 1 of 0 under 19", NOT_SO);
        item(x, "sum plus 1 of 0 under 20", NOT_SO);
        item(x, "sum plus 1 of 0 under 21", SO);
    }

    /** The least and the greatest number behind over and under. */
    private static void numbersOfSumsAtTheirEnds() {
        HazardRules x = new HazardRules();
        x.part(0, 0, 0);
        x.part(1, 1, 1);
        item(x, "sum plus 1 of 0 over 0", NOT_SO);
        item(x, "sum plus 1 of 0 under 0", NOT_SO);
        item(x, "sum plus 1 of 1 over 0", SO);
        item(x, "sum minus 1 of 1 under 0", SO);
        x = new HazardRules();
        x.part(0, 1000000, 1000000);
        x.part(1, 1, 1);
        item(x, "sum plus 1000 of 0 over 999999999", SO);
        item(x, "sum plus 1000 of 0 under 999999999", NOT_SO);
        item(x, "sum plus 1000 of 0 minus 1 of 1 over 999999999", NOT_SO);
        item(x, "sum plus 1000 of 0 minus 1 of 1 under 999999999", NOT_SO);
        item(x, "sum plus 1000 of 0 minus 2 of 1 under 999999999", SO);
    }

    /** 'A rule is NOT SO if some item is; else OPEN if some item is (by the first of these); else SO.' */
    private static void aRuleIsNotSoElseOpenElseSo() {
        int[] results = {0, 1, -1};
        HazardRules x = Check.load(1, "from 0 class 1 when test 0 is 0 and test 1 is 0 and test 2 is 0 end");
        for (int turn = 0; turn < 27; turn++) {
            int[] tests = {results[turn / 9], results[turn / 3 % 3], results[turn % 3]};
            int lack = -1;
            boolean notSo = false;
            for (int t = 2; t >= 0; t--) {
                x.test(t, tests[t]);
                lack = tests[t] == -1 ? 100 + t : lack;
                notSo |= tests[t] == 1;
            }
            looks("tests " + tests[0] + " " + tests[1] + " " + tests[2], x, 0, notSo ? NOT_SO : lack == -1 ? SO : OPEN);
            Check.due("missing(0)", x.missing(0), notSo ? -1 : lack);
            Check.due("missing(1)", x.missing(1), -1);
        }
    }

    /** 'if the edition has a rule of a class with items of test that all have results' */
    private static void testsWinWhenAllHaveResults() {
        HazardRules x = Check.load(2, "from 0 class 1 when sum plus 1 of 0 over 0 end"
                + " class 1 when test 0 is 0 and sum plus 1 of 0 over 5 and test 7 is 0 end");
        x.part(0, 1, 1);
        looks("no result", x, 0, 1);
        x.test(0, 0);
        looks("a result of the first", x, 0, 1);
        x.test(7, 0);
        looks("results of both, a sum that is not so", x, 0, 0);
        x.test(0, -1);
        looks("a result of the second", x, 0, 1);
        x.test(0, 9);
        x.test(7, 9);
        looks("results that are not asked for", x, 0, 0);
        x.clearParts();
        x.test(0, 0);
        x.test(7, 0);
        looks("the rule with tests is open itself", x, 0, -2);
        Check.due("open(0, 2)", x.open(0, 2), 0);
        Check.due("open(1, 0): the other is passed over", x.open(1, 0), -1);
    }

    /** 'the edition has a rule of a class .., rules of that class' */
    private static void testsWinInTheirClassAndEdition() {
        HazardRules x = Check.load(5, "from 0 class 1 when test 0 is 0 end class 2 when sum plus 1 of 0 over 0 end"
                + " from 1 class 1 when sum plus 1 of 0 over 0 end class 2 when test 1 is 0 end"
                + " from 2 class 1 when test 0 is 0 end");
        x.part(0, 1, 1);
        x.test(0, 1);
        looks("another class", x, 0, 1);
        Check.due("cls(0)", x.cls(0), 2);
        looks("rules of the editions before and behind", x, 1, -4);
        Check.due("cls(0)", x.cls(0), 1);
        x.test(1, 1);
        looks("a rule of another class", x, 1, 1);
        Check.due("cls(0)", x.cls(0), 1);
    }

    /** 'rules of that class without items of test are PASSED OVER', be they before or behind */
    private static void testsWinOverRulesWithoutTestsAlone() {
        String sum = " class 1 when sum plus 1 of 0 over 0 end";
        String holds = " class 1 when holds 2 end";
        String other = " class 1 when test 1 is 0 and sum plus 1 of 0 over 0 end";
        String test = " class 1 when test 0 is 0 end";
        String[] before = {"from 0 class 2 when sum plus 1 of 0 over 0 end", sum, holds, other};
        HazardRules x = Check.load(8, String.join("", before) + test + sum + holds + other);
        x.part(0, 1, 1);
        looks("no results: lines 3, 4 and 7 are open, class 1 holds", x, 0, 2);
        Check.due("explain(1, 3, 0)", x.explain(1, 3, 0), 6);
        Check.due("explain(1, 4, 0)", x.explain(1, 4, 0), -1);
        x.test(0, 1);
        looks("all without tests are passed over", x, 0, -4);
        Check.due("open(0, 0)", x.open(0, 0), 3);
        Check.due("open(1, 0)", x.open(1, 0), 7);
        Check.due("open(2, 0)", x.open(2, 0), -1);
        x.test(1, 0);
        looks("those with tests are not", x, 0, 2);
        Check.due("explain(1, 0, 0)", x.explain(1, 0, 0), 3);
        Check.due("explain(1, 1, 0)", x.explain(1, 1, 0), 7);
        Check.due("explain(1, 2, 0)", x.explain(1, 2, 0), -1);
    }

    /** 'OPEN RULES are those that are OPEN and whose class does not hold in the end.' */
    private static void openRulesAreOfClassesThatDoNotHoldInTheEnd() {
        HazardRules x = Check.load(4, "from 0 class 1 when test 0 is 0 end class 2 when test 0 is 0 end"
                + " class 1 when test 1 is 0 end class 1 when test 0 is 0 end");
        looks("all are open", x, 0, -1);
        Check.due("open(3, 0)", x.open(3, 0), 3);
        x.test(1, 1);
        looks("class 1 does not hold", x, 0, -1);
        Check.due("open(2, 0)", x.open(2, 0), 3);
        x.test(1, 0);
        looks("class 1 holds by a rule behind", x, 0, -2);
        Check.due("open(0, 0)", x.open(0, 0), 1);
        Check.due("open(1, 0): nor one behind that", x.open(1, 0), -1);
    }

    /** 'p for a part p .., 100 + t for a test .., 200 + p for by 0 .., 300 + c for a class that is open' */
    private static void whatRulesLack() {
        for (int p : new int[] {0, 15}) {
            HazardRules x = new HazardRules();
            item(x, "sum plus 1 of " + p + " by 0 over 0", OPEN);
            Check.due("missing(0): part " + p, x.missing(0), p);
            x.part(p, 0, 0);
            item(x, "sum plus 1 of " + p + " by 0 over 0", OPEN);
            Check.due("missing(0): by 0 at part " + p, x.missing(0), 200 + p);
        }
        for (int t : new int[] {0, 7}) {
            HazardRules x = new HazardRules();
            item(x, "test " + t + " is 0", OPEN);
            Check.due("missing(0): test " + t, x.missing(0), 100 + t);
        }
        for (int c : new int[] {0, 19}) {
            HazardRules x = Check.load(2, "from 0 class " + c + " when test 5 is 0 end class 9 when holds " + c + " end");
            looks("class " + c + " is open", x, 0, -1);
            Check.due("missing(1): class " + c, x.missing(1), 300 + c);
        }
    }

    /** 'Answers how many classes hold' */
    private static void runCountsEachClassOnce() {
        HazardRules x = Check.load(4, "from 0 class 0 when test 0 is 0 end class 19 when test 0 is 0 end"
                + " class 0 when test 0 not 1 end class 19 when test 0 not 2 end");
        x.test(0, 0);
        looks("two classes by four rules", x, 0, 2);
        x.test(0, 1);
        looks("one class", x, 0, 1);
        x = Check.load(1, "from 0 class 0 when test 0 is 0 end");
        x.test(0, 1);
        looks("no class", x, 0, 0);
    }

    /** 'or, if there are open rules, -1 less the line of the first of these' */
    private static void runTellsTheFirstOpenLine() {
        HazardRules x = Check.load(4, "from 0 class 0 when test 0 is 0 end class 1 when test 1 is 0 end"
                + " class 2 when test 2 is 0 end from 1 class 3 when test 3 is 0 end");
        looks("line 0", x, 0, -1);
        looks("line 3, the first of its edition", x, 1, -4);
        x.test(0, 0);
        looks("line 1, though a class holds", x, 0, -2);
        x.test(1, 1);
        looks("line 2, the last", x, 0, -3);
        x.test(2, 1);
        looks("none", x, 0, 1);
    }

    /** 'With no edition that acts no class holds.' */
    private static void noEditionThatActsNoClassHolds() {
        HazardRules x = Check.load(2, "from 3 class 1 when test 0 is 0 end class 2 when sum plus 1 of 0 over 4 end");
        x.test(0, 0);
        for (int turn = 0; turn < 2; turn++) {
            looks("before the first day", x, 2, 0);
            Check.due("cls(0)", x.cls(0), -1);
            Check.due("mark(0)", x.mark(0), -1);
            Check.due("moving()", x.moving(), -1);
            Check.due("open(0, 0)", x.open(0, 0), -1);
            Check.due("missing(0)", x.missing(0), -1);
            Check.due("explain(1, 0, 0)", x.explain(1, 0, 0), -1);
            Check.due("limit(2)", x.limit(2), -1);
            looks("on the first day", x, 3, -2);
            Check.due("limit(2)", x.limit(2), 4);
        }
    }

    /** 'What is asked for below is of this, or of the latest walk(), by the facts as they were then.' */
    private static void whatIsAskedIsOfTheLatestLook() {
        HazardRules x = Check.load(2, "from 0 class 1 when test 0 is 0 end from 1 class 2 when sum plus 1 of 0 over 4 end");
        x.test(0, 0);
        Check.due("run(0)", x.run(0), 1);
        Check.due("walk(1)", x.walk(1), -2);
        x.part(0, 5, 5);
        x.test(0, 1);
        Check.due("open(0, 2)", x.open(0, 2), 0);
        Check.due("cls(0)", x.cls(0), -1);
        Check.due("edition(0) is no look", x.edition(0), 0);
        Check.due("limit(2)", x.limit(2), 4);
        Check.due("run(0)", x.run(0), 0);
        Check.due("open(0, 2)", x.open(0, 2), -1);
        Check.due("limit(2)", x.limit(2), -1);
        Check.due("walk(1)", x.walk(1), 1);
        x.clearParts();
        x.way(false);
        Check.due("cls(0)", x.cls(0), 2);
        Check.due("explain(2, 0, 0)", x.explain(2, 0, 0), 1);
    }

    /** 'The same as run(), anew, word by word: it answers and leaves the same.' */
    private static void walkLeavesTheSame() {
        for (long day : new long[] {Long.MIN_VALUE, -1, 1, 2, 3, 4, 5, Long.MAX_VALUE}) {
            HazardRules ran = Picture.full();
            HazardRules walked = Picture.full();
            Check.due("walk(" + day + ") as run()", walked.walk(day), ran.run(day));
            Check.same("behind walk(" + day + ") as run()", Picture.of(walked), Picture.of(ran));
        }
    }
}
