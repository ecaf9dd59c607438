/** Promise 18: the first item of sum of a rule, as facts are now. */
public final class SumTest {
    public static void main(String[] args) {
        terms();
        partsOfASum();
        openSums();
        firstSumOfAnyRule();
        wrongAsking();
        greatSums();
        Check.end();
    }

    private static HazardRules load(String terms) {
        return Check.load(1, "from 9 class 1 when sum " + terms + " over 0 end");
    }

    /** Part 2 is 10 .. 20. */
    private static void ends(String terms, long low, long high) {
        HazardRules x = load(terms);
        x.part(2, 10, 20);
        Check.due("sum at low of " + terms, x.sum(0, 0, -1), low);
        Check.due("sum at high of " + terms, x.sum(0, 1, -1), high);
        Check.due("sum at low of part 2 of " + terms, x.sum(0, 0, 2), low);
        x.way(false);
        Check.due("sum at low of " + terms, x.sum(0, 0, -1), low);
        Check.due("sum at high of " + terms, x.sum(0, 1, -1), high);
    }

    private static void terms() {
        ends("plus 1 of 2", 10, 20);
        ends("minus 1 of 2", -20, -10);
        ends("plus 0 of 2", 0, 0);
        ends("plus 1000 of 2", 10000, 20000);
        ends("plus 3 of 2 cut 10", 30, 60);
        ends("plus 3 of 2 cut 11", 0, 60);
        ends("plus 3 of 2 cut 20", 0, 60);
        ends("plus 3 of 2 cut 21", 0, 0);
        ends("plus 3 of 2 cut 999999999", 0, 0);
        ends("minus 3 of 2 cut 11", -60, 0);
        ends("plus 1 of 2 by 3", 3, 6);
        ends("minus 1 of 2 by 3", -6, -3);
        ends("minus 1 of 2 by 7", -2, -1);
        ends("plus 2 of 2 by 3", 6, 13);
        ends("plus 1 of 2 by 999", 0, 0);
        ends("minus 1 of 2 by 999", 0, 0);
        ends("plus 1 of 2 cut 11 by 3", 0, 6);
        ends("plus 1 of 2 by 3 plus 1 of 2 by 3", 6, 12);
        ends("plus 1 of 2 minus 1 of 2", -10, 10);
    }

    private static void partsOfASum() {
        HazardRules x = load("plus 2 of 1 minus 1 of 3 by 2 plus 1 of 1 cut 6");
        x.part(1, 5, 7);
        x.part(3, 4, 9);
        Check.due("sum(0, 0, NONE)", x.sum(0, 0, HazardRules.NONE), 6);
        Check.due("sum(0, 1, NONE)", x.sum(0, 1, HazardRules.NONE), 19);
        Check.due("sum(0, 0, 1)", x.sum(0, 0, 1), 10);
        Check.due("sum(0, 1, 1)", x.sum(0, 1, 1), 21);
        Check.due("sum(0, 0, 3)", x.sum(0, 0, 3), -4);
        Check.due("sum(0, 1, 3)", x.sum(0, 1, 3), -2);
        Check.due("sum(0, 1, 2): no term is of it", x.sum(0, 1, 2), 0);
        x.part(2, 8, 8);
        Check.due("sum(0, 1, 2): no term is of it", x.sum(0, 1, 2), 0);
        x.part(1, 1, 1);
        Check.due("sum(0, 1, 1): as facts are now", x.sum(0, 1, 1), 2);
    }

    private static void openSums() {
        HazardRules x = load("plus 2 of 1 plus 1 of 3");
        x.part(1, 5, 7);
        Check.due("sum(0, 0, NONE): part 3 has no span", x.sum(0, 0, -1), 0);
        Check.due("sum(0, 0, 1): open by another term", x.sum(0, 0, 1), 0);
        x = load("plus 2 of 1 plus 1 of 3 by 0");
        x.part(1, 5, 7);
        x.part(3, 5, 7);
        Check.due("sum(0, 0, NONE): by 0", x.sum(0, 0, -1), 0);
        Check.due("sum(0, 1, 1): open by another term", x.sum(0, 1, 1), 0);
        Check.due("sum(0, 1, 3)", x.sum(0, 1, 3), 0);
    }

    private static void firstSumOfAnyRule() {
        HazardRules x = Check.load(4, "from 1 class 1 when test 0 is 0 and sum plus 1 of 1 over 0 and sum plus 5 of 1 over 0 end"
                + " class 2 when holds 1 end from 2 class 3 when sum plus 3 of 1 under 0 end"
                + " class 4 when sum plus 1 of 2 over 0 and sum plus 1 of 1 over 0 end");
        x.part(1, 2, 4);
        Check.due("sum(0, 1, NONE)", x.sum(0, 1, -1), 4);
        Check.due("sum(1, 1, NONE): no item of sum", x.sum(1, 1, -1), 0);
        Check.due("sum(2, 1, NONE)", x.sum(2, 1, -1), 12);
        Check.due("sum(3, 1, NONE): the first is open", x.sum(3, 1, -1), 0);
        x.run(1);
        Check.due("sum(2, 0, NONE): whichever edition", x.sum(2, 0, -1), 6);
        x.run(2);
        Check.due("sum(0, 0, NONE): whichever edition", x.sum(0, 0, -1), 2);
    }

    private static void wrongAsking() {
        HazardRules x = load("plus 1 of 0 plus 1 of 15");
        x.part(0, 1, 1);
        x.part(15, 2, 2);
        int[] wrong = {-2, 16, 60, Integer.MIN_VALUE, Integer.MAX_VALUE};
        for (int w : wrong) {
            Check.due("sum(" + w + ", 0, -1)", x.sum(w, 0, -1), 0);
            Check.due("sum(0, " + w + ", -1)", x.sum(0, w, -1), 0);
            Check.due("sum(0, 0, " + w + ")", x.sum(0, 0, w), 0);
        }
        Check.due("sum(-1, 0, -1)", x.sum(-1, 0, -1), 0);
        Check.due("sum(1, 0, -1)", x.sum(1, 0, -1), 0);
        Check.due("sum(0, -1, -1)", x.sum(0, -1, -1), 0);
        Check.due("sum(0, 2, -1)", x.sum(0, 2, -1), 0);
        Check.due("sum(0, 0, 0)", x.sum(0, 0, 0), 1);
        Check.due("sum(0, 0, 15)", x.sum(0, 0, 15), 2);
    }

    private static void greatSums() {
        HazardRules x = load("plus 1000 of 0 plus 1000 of 0 plus 1000 of 0 plus 1000 of 0 plus 1000 of 0");
        x.part(0, 1000000, 1000000);
        Check.due("sum(0, 0, -1)", x.sum(0, 0, -1), 5000000000L);
        Check.due("run(9)", x.run(9), 1);
        x = load("minus 1000 of 0 minus 1000 of 0 minus 1000 of 0 minus 1000 of 0 minus 1000 of 0");
        x.part(0, 1000000, 1000000);
        Check.due("sum(0, 0, 0)", x.sum(0, 0, 0), -5000000000L);
        Check.due("run(9)", x.run(9), 0);
    }
}
