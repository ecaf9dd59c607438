/** Promise 6, test(): a test's result. */
public final class ResultTest {
    public static void main(String[] args) {
        everyTestHasItsOwnResult();
        everyResult();
        noneTakesTheResultAway();
        wrongResultsAreRefused();
        Check.end();
    }

    private static void everyTestHasItsOwnResult() {
        for (int t = 0; t < 8; t++) {
            HazardRules x = Check.load(1, "from 0 class 1 when test " + t + " is 4 end");
            for (int other = 0; other < 8; other++) {
                if (other != t) {
                    Check.due("test(" + other + ", 4)", x.test(other, 4), true);
                }
            }
            Check.due("run(0) without test " + t, x.run(0), -1);
            Check.due("test(" + t + ", 4)", x.test(t, 4), true);
            Check.due("run(0) with test " + t, x.run(0), 1);
        }
    }

    private static void everyResult() {
        HazardRules x = Check.load(2, "from 0 class 1 when test 3 is 0 end class 2 when test 3 not 9 end");
        for (int result = 0; result < 10; result++) {
            Check.due("test(3, " + result + ")", x.test(3, result), true);
            Check.due("run(0) of " + result, x.run(0), result == 0 ? 2 : result == 9 ? 0 : 1);
        }
    }

    private static void noneTakesTheResultAway() {
        HazardRules x = Check.load(1, "from 0 class 1 when test 3 is 4 end");
        Check.due("test(3, NONE) without a result", x.test(3, HazardRules.NONE), true);
        Check.due("test(3, 4)", x.test(3, 4), true);
        Check.due("run(0)", x.run(0), 1);
        Check.due("test(3, NONE)", x.test(3, HazardRules.NONE), true);
        Check.due("run(0)", x.run(0), -1);
        Check.due("missing(0)", x.missing(0), 103);
    }

    private static void wrongResultsAreRefused() {
        HazardRules x = Check.load(1, "from 0 class 1 when test 7 is 4 end");
        Check.due("test(7, 4)", x.test(7, 4), true);
        int[][] wrong = {
            {7, 10}, {7, -2}, {8, 4}, {-1, 4}, {8, -1}, {-1, -1}, {7, Integer.MIN_VALUE}, {7, Integer.MAX_VALUE},
            {Integer.MIN_VALUE, 4}, {Integer.MAX_VALUE, 4}
        };
        for (int[] row : wrong) {
            Check.due("test(" + row[0] + ", " + row[1] + ")", x.test(row[0], row[1]), false);
            Check.due("run(0)", x.run(0), 1);
        }
    }
}
