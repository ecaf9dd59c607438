/**
 * The boundary cases of a term at an end and of its sum: what 'Terms' says of them, and promise 18.
 * A method for each sentence.
 */
public final class SumBoundsTest {
    public static void main(String[] args) {
        plusTakesThisEndMinusTheOther();
        cutTakesWhatIsLess();
        weightsGoFrom0To1000();
        byDividesDown();
        minusIsBelow0();
        allTermsTogether();
        sumsGoBeyondInts();
        rulesThatThereAre();
        endsAre0And1();
        partsOfTheItem();
        theFirstItemOfSum();
        openByAnyOfItsTerms();
        whicheverEditionAndAsFactsAreNow();
        Check.end();
    }

    private static HazardRules sum(String terms) {
        return Check.load(1, "from 5 class 1 when sum " + terms + " over 0 end");
    }

    /** Part 3 has the span; both ends of the sum are as due. */
    private static void ends(String terms, long low, long high, long dueAtLow, long dueAtHigh) {
        HazardRules x = sum(terms);
        x.part(3, low, high);
        String name = " of " + terms + " for " + low + " .. " + high;
        Check.due("sum at low" + name, x.sum(0, 0, -1), dueAtLow);
        Check.due("sum at high" + name, x.sum(0, 1, -1), dueAtHigh);
        Check.due("sum at low of part 3" + name, x.sum(0, 0, 3), dueAtLow);
        Check.due("sum at high of part 3" + name, x.sum(0, 1, 3), dueAtHigh);
    }

    /** 'the part's value at that end for plus, at the other end for minus' */
    private static void plusTakesThisEndMinusTheOther() {
        ends("plus 1 of 3", 4, 9, 4, 9);
        ends("minus 1 of 3", 4, 9, -9, -4);
        ends("plus 1 of 3", 0, 1000000, 0, 1000000);
        ends("minus 1 of 3", 0, 1000000, -1000000, 0);
        ends("plus 1 of 3", 7, 7, 7, 7);
        ends("minus 1 of 3", 7, 7, -7, -7);
    }

    /** '0 in its stead if it is less than what stands behind cut' */
    private static void cutTakesWhatIsLess() {
        ends("plus 1 of 3 cut 6", 5, 6, 0, 6);
        ends("plus 1 of 3 cut 6", 6, 7, 6, 7);
        ends("plus 1 of 3 cut 6", 4, 5, 0, 0);
        ends("minus 1 of 3 cut 6", 5, 6, -6, 0);
        ends("minus 1 of 3 cut 6", 6, 7, -7, -6);
        ends("plus 1 of 3 cut 0", 0, 1, 0, 1);
        ends("plus 1 of 3 cut 1000000", 999999, 1000000, 0, 1000000);
        ends("plus 1 of 3 cut 1000001", 999999, 1000000, 0, 0);
        ends("plus 1 of 3 cut 999999999", 0, 1000000, 0, 0);
        // The value is cut, not what weight and by make of it.
        ends("plus 10 of 3 cut 6", 5, 6, 0, 60);
        ends("plus 1 of 3 cut 6 by 2", 5, 6, 0, 3);
        ends("plus 0 of 3 cut 6", 5, 6, 0, 0);
    }

    /** 'times weight', 0 .. 1000 */
    private static void weightsGoFrom0To1000() {
        ends("plus 0 of 3", 4, 9, 0, 0);
        ends("minus 0 of 3", 4, 9, 0, 0);
        ends("plus 1000 of 3", 4, 9, 4000, 9000);
        ends("plus 1000 of 3", 0, 1000000, 0, 1000000000);
        ends("minus 1000 of 3", 0, 1000000, -1000000000, 0);
    }

    /** 'over what stands behind by, down' */
    private static void byDividesDown() {
        ends("plus 1 of 3 by 1", 4, 9, 4, 9);
        ends("plus 1 of 3 by 5", 4, 5, 0, 1);
        ends("plus 1 of 3 by 5", 9, 10, 1, 2);
        ends("plus 1 of 3 by 999", 998, 999, 0, 1);
        ends("plus 1 of 3 by 999", 1997, 1998, 1, 2);
        ends("plus 1000 of 3 by 999", 0, 1000000, 0, 1001001);
        // First times weight, then over by.
        ends("plus 3 of 3 by 2", 1, 3, 1, 4);
        ends("plus 2 of 3 by 3", 1, 2, 0, 1);
        // Each term for itself, not their sum.
        ends("plus 1 of 3 by 2 plus 1 of 3 by 2", 1, 3, 0, 2);
    }

    /** 'and for minus below 0': down first, then below 0 */
    private static void minusIsBelow0() {
        ends("minus 1 of 3 by 5", 4, 9, -1, 0);
        ends("minus 3 of 3 by 2", 1, 3, -4, -1);
        ends("minus 1 of 3", 0, 0, 0, 0);
    }

    /** 'all of its terms at that end, together' */
    private static void allTermsTogether() {
        HazardRules x = sum("plus 2 of 0 minus 3 of 15 plus 1 of 0 cut 5 minus 1 of 7 by 2");
        x.part(0, 4, 6);
        x.part(15, 1, 2);
        x.part(7, 3, 9);
        Check.due("sum(0, 0, NONE)", x.sum(0, 0, -1), 8 - 6 + 0 - 4);
        Check.due("sum(0, 1, NONE)", x.sum(0, 1, -1), 12 - 3 + 6 - 1);
        Check.due("sum(0, 0, 0)", x.sum(0, 0, 0), 8);
        Check.due("sum(0, 1, 0)", x.sum(0, 1, 0), 18);
        Check.due("sum(0, 0, 15)", x.sum(0, 0, 15), -6);
        Check.due("sum(0, 1, 15)", x.sum(0, 1, 15), -3);
        Check.due("sum(0, 0, 7)", x.sum(0, 0, 7), -4);
        Check.due("sum(0, 1, 7)", x.sum(0, 1, 7), -1);
    }

    private static void sumsGoBeyondInts() {
        String plus = "plus 1000 of 3 plus 1000 of 3 plus 1000 of 3 plus 1000 of 3 plus 1000 of 3";
        ends(plus, 0, 1000000, 0, 5000000000L);
        ends(plus.replace("plus", "minus"), 0, 1000000, -5000000000L, 0);
        HazardRules x = sum(plus);
        x.part(3, 1000000, 1000000);
        Check.due("run(5) of 5000000000 over 0", x.run(5), 1);
        x = Check.load(1, "from 5 class 1 when sum " + plus.replace("plus", "minus") + " under 0 end");
        x.part(3, 1000000, 1000000);
        Check.due("run(5) of -5000000000 under 0", x.run(5), 1);
    }

    /** Three rules: a sum, none, a sum. Parts 0 and 15 have spans. */
    private static HazardRules threeRules() {
        HazardRules x = Check.load(3, "from 1 class 1 when sum plus 1 of 0 plus 1 of 15 over 0 end"
                + " class 2 when test 0 is 0 and holds 1 end from 2 class 3 when sum plus 3 of 0 under 0 end");
        x.part(0, 1, 2);
        x.part(15, 10, 20);
        return x;
    }

    /** '0 when there is none such' (a rule, an item of sum) */
    private static void rulesThatThereAre() {
        HazardRules x = threeRules();
        Check.due("sum(-1, 1, NONE)", x.sum(-1, 1, -1), 0);
        Check.due("sum(0, 1, NONE)", x.sum(0, 1, -1), 22);
        Check.due("sum(1, 1, NONE): no item of sum", x.sum(1, 1, -1), 0);
        Check.due("sum(2, 1, NONE)", x.sum(2, 1, -1), 6);
        Check.due("sum(3, 1, NONE)", x.sum(3, 1, -1), 0);
        Check.due("sum(60, 1, NONE)", x.sum(60, 1, -1), 0);
        Check.due("sum(min, 1, NONE)", x.sum(Integer.MIN_VALUE, 1, -1), 0);
        Check.due("sum(max, 1, NONE)", x.sum(Integer.MAX_VALUE, 1, -1), 0);
    }

    /** 'at low (end = 0) or high (1)' */
    private static void endsAre0And1() {
        HazardRules x = threeRules();
        Check.due("sum(0, -1, NONE)", x.sum(0, -1, -1), 0);
        Check.due("sum(0, 0, NONE)", x.sum(0, 0, -1), 11);
        Check.due("sum(0, 1, NONE)", x.sum(0, 1, -1), 22);
        Check.due("sum(0, 2, NONE)", x.sum(0, 2, -1), 0);
        Check.due("sum(0, min, NONE)", x.sum(0, Integer.MIN_VALUE, -1), 0);
        Check.due("sum(0, max, NONE)", x.sum(0, Integer.MAX_VALUE, -1), 0);
        Check.due("sum(0, 2, 0)", x.sum(0, 2, 0), 0);
    }

    /** 'all of it (part = NONE), or what its terms of a part make together' */
    private static void partsOfTheItem() {
        HazardRules x = threeRules();
        x.part(14, 5, 5);
        Check.due("sum(0, 1, -2)", x.sum(0, 1, -2), 0);
        Check.due("sum(0, 1, NONE)", x.sum(0, 1, -1), 22);
        Check.due("sum(0, 1, 0)", x.sum(0, 1, 0), 2);
        Check.due("sum(0, 1, 14): no term of it", x.sum(0, 1, 14), 0);
        Check.due("sum(0, 1, 15)", x.sum(0, 1, 15), 20);
        Check.due("sum(0, 1, 16)", x.sum(0, 1, 16), 0);
        Check.due("sum(0, 1, min)", x.sum(0, 1, Integer.MIN_VALUE), 0);
        Check.due("sum(0, 1, max)", x.sum(0, 1, Integer.MAX_VALUE), 0);
    }

    /** 'The first item of sum of a rule' */
    private static void theFirstItemOfSum() {
        HazardRules x = Check.load(1, "from 1 class 1 when holds 2 and test 0 is 0 and sum plus 1 of 0 over 0"
                + " and sum plus 7 of 0 plus 1 of 1 over 0 end");
        x.part(0, 3, 4);
        Check.due("sum(0, 1, NONE)", x.sum(0, 1, -1), 4);
        x.part(1, 3, 4);
        Check.due("sum(0, 1, 1): of the second item alone", x.sum(0, 1, 1), 0);
    }

    /** 'or the item is open (by any of its terms)' */
    private static void openByAnyOfItsTerms() {
        for (String terms : new String[] {"plus 1 of 0 plus 1 of 1", "plus 1 of 1 plus 1 of 0"}) {
            HazardRules x = sum(terms);
            x.part(0, 3, 4);
            Check.due("sum(0, 1, NONE): part 1 has no span", x.sum(0, 1, -1), 0);
            Check.due("sum(0, 1, 0): nor this", x.sum(0, 1, 0), 0);
            x.part(1, 0, 0);
            Check.due("sum(0, 1, 0)", x.sum(0, 1, 0), 4);
        }
        for (String terms : new String[] {"plus 1 of 0 plus 0 of 1 by 0", "plus 0 of 1 by 0 plus 1 of 0"}) {
            HazardRules x = sum(terms);
            x.part(0, 3, 4);
            x.part(1, 0, 0);
            Check.due("sum(0, 1, NONE): by 0", x.sum(0, 1, -1), 0);
            Check.due("sum(0, 1, 0): nor this", x.sum(0, 1, 0), 0);
        }
    }

    /** 'as facts are now: .., whichever edition it is of' */
    private static void whicheverEditionAndAsFactsAreNow() {
        HazardRules x = threeRules();
        Check.due("sum(2, 0, NONE): nothing was looked at", x.sum(2, 0, -1), 3);
        for (long day = 0; day < 3; day++) {
            x.run(day);
            Check.due("sum(0, 0, NONE) behind run(" + day + ")", x.sum(0, 0, -1), 11);
            Check.due("sum(2, 0, NONE) behind run(" + day + ")", x.sum(2, 0, -1), 3);
        }
        x.part(0, 100, 100);
        Check.due("sum(2, 0, NONE)", x.sum(2, 0, -1), 300);
        x.way(false);
        Check.due("sum(2, 0, NONE): the way is nothing to it", x.sum(2, 0, -1), 300);
        x.clearParts();
        Check.due("sum(2, 0, NONE)", x.sum(2, 0, -1), 0);
    }
}
