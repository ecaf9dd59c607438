/** Promise 9: looks at the rules on a day; how many classes hold, or the first open rule. */
public final class RunTest {
    public static void main(String[] args) {
        noEditionActs();
        theActingEditionAlone();
        everyLookIsAnew();
        testItems();
        sumsByWay();
        sumsThatAreOpen();
        holdsItems();
        rulesOfSeveralItems();
        testsWin();
        openRulesOfClassesThatHold();
        factsAsTheyWereThen();
        Check.end();
    }

    private static void noEditionActs() {
        HazardRules x = Check.load(2, "from 5 class 1 when test 0 is 0 end class 2 when test 1 is 0 and sum plus 1 of 1 over 7 end");
        Check.due("run(4)", x.run(4), 0);
        x.test(0, 0);
        Check.due("run(5)", x.run(5), -2);
        Check.due("limit(2)", x.limit(2), 7);
        Check.due("run(4) behind run(5)", x.run(4), 0);
        Check.due("cls(0)", x.cls(0), -1);
        Check.due("mark(0)", x.mark(0), -1);
        Check.due("moving()", x.moving(), -1);
        Check.due("open(0, 0)", x.open(0, 0), -1);
        Check.due("missing(0)", x.missing(0), -1);
        Check.due("explain(1, 0, 0)", x.explain(1, 0, 0), -1);
        Check.due("limit(2)", x.limit(2), -1);
        Check.due("run(min)", x.run(Long.MIN_VALUE), 0);
    }

    private static void theActingEditionAlone() {
        HazardRules x = Check.load(3, "from 5 class 1 when test 0 is 0 end from 7 from 9 class 2 when test 0 is 0 end"
                + " class 3 when holds 1 end");
        x.test(0, 0);
        Check.due("run(6)", x.run(6), 1);
        Check.due("cls(0)", x.cls(0), 1);
        Check.due("run(7): an edition without rules", x.run(7), 0);
        Check.due("cls(0)", x.cls(0), -1);
        Check.due("run(max): holds is of this edition", x.run(Long.MAX_VALUE), 1);
        Check.due("cls(0)", x.cls(0), 2);
        x.clearParts();
        Check.due("run(5): line 0", x.run(5), -1);
        Check.due("run(9): line 1", x.run(9), -2);
        Check.due("open(1, 0)", x.open(1, 0), -1);
    }

    private static void everyLookIsAnew() {
        HazardRules x = Check.load(2, "from 0 class 1 when holds 2 end class 2 when test 0 is 0 end");
        x.test(0, 0);
        for (int turn = 0; turn < 3; turn++) {
            Check.due("run(0): holds asks about rules before", x.run(0), 1);
            Check.due("cls(0)", x.cls(0), 2);
        }
        x.clearParts();
        Check.due("run(0)", x.run(0), -2);
        Check.due("run(0): nor were they open before", x.run(0), -2);
        x.test(0, 1);
        Check.due("run(0)", x.run(0), 0);
        Check.due("open(0, 0)", x.open(0, 0), -1);
    }

    private static void item(String item, HazardRules facts, int answer) {
        Check.feed(facts, "from 0 class 1 when " + item + " end");
        Check.due("read() of " + item, facts.read(), 1);
        Check.due("run(0) of " + item, facts.run(0), answer);
        Check.due("walk(0) of " + item, facts.walk(0), answer);
    }

    private static void testItems() {
        HazardRules x = new HazardRules();
        item("test 3 is 4", x, -1);
        item("test 3 not 4", x, -1);
        x.test(3, 4);
        item("test 3 is 4", x, 1);
        item("test 3 not 4", x, 0);
        item("test 3 is 5", x, 0);
        item("test 3 not 5", x, 1);
    }

    private static void sumsByWay() {
        sumsOfPlus(true, new int[] {1, 0, 0, 1});
        sumsOfPlus(false, new int[] {1, 0, 0, 1});
        sumsOfMinus();
    }

    /** A span of 10 .. 20: strict reads over at 20 and under at 10, not strict the other way. */
    private static void sumsOfPlus(boolean strict, int[] due) {
        long over = strict ? 20 : 10;
        long under = strict ? 10 : 20;
        HazardRules x = new HazardRules();
        x.part(1, 10, 20);
        x.way(strict);
        item("sum plus 1 of 1 over " + (over - 1), x, due[0]);
        item("sum plus 1 of 1 over " + over, x, due[1]);
        item("sum plus 1 of 1 under " + under, x, due[2]);
        item("sum plus 1 of 1 under " + (under + 1), x, due[3]);
    }

    /** 3 times 10 .. 20, less 2 .. 6: from 24 up to 58. */
    private static void sumsOfMinus() {
        HazardRules x = new HazardRules();
        x.part(1, 10, 20);
        x.part(2, 2, 6);
        String sum = "sum plus 3 of 1 minus 1 of 2 ";
        item(sum + "over 57", x, 1);
        item(sum + "over 58", x, 0);
        item(sum + "under 25", x, 1);
        x.way(false);
        item(sum + "over 23", x, 1);
        item(sum + "over 24", x, 0);
        x = new HazardRules();
        x.part(2, 2, 6);
        item("sum minus 1 of 2 under 0", x, 1);
        item("sum minus 1 of 2 over 0", x, 0);
    }

    private static void sumsThatAreOpen() {
        lacks("sum plus 1 of 1 over 0", 1);
        lacks("sum plus 0 of 15 over 0", 15);
        lacks("sum plus 1 of 2 plus 1 of 1 over 0", 1);
        lacks("sum plus 1 of 2 by 0 plus 1 of 1 over 0", 202);
        lacks("sum plus 1 of 1 by 0 plus 1 of 2 over 0", 1);
        lacks("sum plus 1 of 2 plus 1 of 3 by 0 under 0", 203);
        lacks("sum minus 0 of 2 by 0 under 0", 202);
        lacks("sum plus 1 of 2 cut 999 by 0 under 0", 202);
        lacks("sum plus 1 of 1 plus 1 of 0 under 0", 1);
    }

    /** Parts 2 and 3 have spans. */
    private static void lacks(String item, int lack) {
        HazardRules x = new HazardRules();
        x.part(2, 5, 6);
        x.part(3, 0, 0);
        item(item, x, -1);
        Check.due("open(0, 2) of " + item, x.open(0, 2), lack);
        x.way(false);
        Check.due("run(0) of " + item, x.run(0), -1);
        Check.due("open(0, 2) of " + item, x.open(0, 2), lack);
    }

    private static void holdsItems() {
        HazardRules x = Check.load(5, "from 0 class 1 when test 0 is 0 end class 1 when test 1 is 0 end"
                + " class 2 when holds 1 end class 3 when holds 3 end class 4 when holds 2 end");
        Check.due("run(0): both are open", x.run(0), -1);
        Check.due("open(2, 2): class 1 is open", x.open(2, 2), 301);
        Check.due("open(3, 2): class 2 is open", x.open(3, 2), 302);
        Check.due("open(4, 2): class 3 is not", x.open(4, 2), -1);
        x.test(1, 0);
        Check.due("run(0): SO wins over OPEN", x.run(0), 3);
        Check.due("cls(2)", x.cls(2), 4);
        x.test(1, 1);
        Check.due("run(0): one is open yet", x.run(0), -1);
        Check.due("open(1, 2)", x.open(1, 2), 301);
        x.test(0, 1);
        Check.due("run(0): none is", x.run(0), 0);
    }

    private static void rulesOfSeveralItems() {
        HazardRules x = Check.load(1, "from 0 class 1 when test 0 is 0 and sum plus 1 of 5 over 3 and test 2 is 0 end");
        Check.due("run(0)", x.run(0), -1);
        Check.due("open(0, 2): the first item", x.open(0, 2), 100);
        Check.due("missing(1): no more than that", x.missing(1), -1);
        x.test(0, 0);
        Check.due("run(0)", x.run(0), -1);
        Check.due("open(0, 2): the first open one", x.open(0, 2), 5);
        x.part(5, 4, 4);
        Check.due("run(0)", x.run(0), -1);
        Check.due("open(0, 2)", x.open(0, 2), 102);
        x.test(2, 1);
        Check.due("run(0): the last is NOT SO", x.run(0), 0);
        x.test(2, 0);
        Check.due("run(0): all are SO", x.run(0), 1);
        x.test(0, HazardRules.NONE);
        x.part(5, 3, 3);
        Check.due("run(0): NOT SO wins over OPEN", x.run(0), 0);
        Check.due("open(0, 0)", x.open(0, 0), -1);
    }

    private static void testsWin() {
        HazardRules x = Check.load(5, "from 0 class 1 when sum plus 1 of 0 over 0 end"
                + " class 1 when test 0 is 0 and test 1 is 0 and holds 9 end class 2 when holds 1 end"
                + " class 3 when sum plus 1 of 0 over 0 end from 1 class 1 when sum plus 1 of 0 over 0 end");
        x.part(0, 1, 1);
        x.test(0, 5);
        Check.due("run(0): a test has no result", x.run(0), 3);
        x.test(1, 5);
        Check.due("run(0): rule 0 is passed over", x.run(0), 1);
        Check.due("cls(0)", x.cls(0), 3);
        Check.due("explain(1, 0, 0)", x.explain(1, 0, 0), -1);
        Check.due("limit(1): numbers stay", x.limit(1), 0);
        Check.due("run(1): of another edition", x.run(1), 1);
        x.clearParts();
        x.test(0, 5);
        x.test(1, 5);
        Check.due("run(0): nor is rule 0 open, class 3 is", x.run(0), -4);
        Check.due("open(1, 0)", x.open(1, 0), -1);
        testsWinOverRulesBehind();
    }

    private static void testsWinOverRulesBehind() {
        HazardRules x = Check.load(4, "from 0 class 1 when test 0 is 0 end class 1 when holds 2 end"
                + " class 1 when test 5 is 0 end class 2 when holds 1 end");
        Check.due("run(0)", x.run(0), -1);
        Check.due("open(1, 0): holds 2 is NOT SO", x.open(1, 0), 2);
        x.test(0, 1);
        Check.due("run(0): rules with tests are looked at", x.run(0), -3);
        Check.due("open(1, 2)", x.open(1, 2), 301);
        x.test(5, 0);
        Check.due("run(0)", x.run(0), 2);
        Check.due("explain(1, 0, 0)", x.explain(1, 0, 0), 2);
    }

    private static void openRulesOfClassesThatHold() {
        HazardRules x = Check.load(4, "from 0 class 1 when sum plus 1 of 0 over 0 end class 2 when holds 1 end"
                + " class 1 when sum plus 1 of 1 over 0 end class 3 when sum plus 1 of 2 over 0 end");
        x.part(1, 1, 1);
        Check.due("run(0): class 1 holds in the end, class 2 was open by it", x.run(0), -2);
        Check.due("open(0, 2)", x.open(0, 2), 301);
        Check.due("open(1, 0)", x.open(1, 0), 3);
        Check.due("open(2, 0)", x.open(2, 0), -1);
        Check.due("cls(0)", x.cls(0), 1);
        x.part(2, 1, 1);
        Check.due("run(0)", x.run(0), -2);
        x.part(0, 0, 0);
        Check.due("run(0)", x.run(0), 2);
    }

    private static void factsAsTheyWereThen() {
        HazardRules x = Check.load(2, "from 0 class 1 when test 0 is 0 end class 2 when sum plus 1 of 4 over 9 end");
        x.test(0, 0);
        Check.due("run(0)", x.run(0), -2);
        x.test(0, 1);
        x.part(4, 10, 10);
        Check.due("cls(0)", x.cls(0), 1);
        Check.due("open(0, 2)", x.open(0, 2), 4);
        Check.due("missing(0)", x.missing(0), 4);
        Check.due("explain(1, 0, 0)", x.explain(1, 0, 0), 0);
        Check.due("run(0)", x.run(0), 1);
        Check.due("cls(0)", x.cls(0), 2);
    }
}
