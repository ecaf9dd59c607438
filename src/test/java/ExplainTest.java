/** Promise 16: the rules by which a class holds. */
public final class ExplainTest {
    public static void main(String[] args) {
        HazardRules x = Check.load(6, "from 0 class 1 when test 0 is 0 end\nfrom 1 class 1 when test 0 is 0 end"
                + " class 2 when test 0 is 0 and holds 1 and test 0 not 3 end class 1 when test 0 is 1 end"
                + " class 1 when test 0 is 0 and test 0 not 2 end class 1 when test 5 is 0 end");
        x.test(0, 0);
        Check.due("run(1)", x.run(1), 2);
        int[][] first = {{1, 1, 12}, {4, 2, 44}};
        int[][] second = {{2, 3, 20}};
        for (int k = -1; k < 4; k++) {
            for (int what = -1; what < 4; what++) {
                due(x, 1, k, what, first);
                due(x, 2, k, what, second);
                due(x, 3, k, what, new int[][] {});
            }
        }
        for (int wrong : new int[] {-1, 20, 60, Integer.MIN_VALUE, Integer.MAX_VALUE}) {
            Check.due("explain(" + wrong + ", 0, 0)", x.explain(wrong, 0, 0), -1);
            Check.due("explain(1, " + wrong + ", 0)", x.explain(1, wrong, 0), -1);
            Check.due("explain(1, 0, " + wrong + ")", x.explain(1, 0, wrong), -1);
        }
        Check.due("run(0)", x.run(0), 1);
        due(x, 1, 0, 0, new int[][] {{0, 1, 2}});
        due(x, 1, 0, 2, new int[][] {{0, 1, 2}});
        due(x, 1, 1, 0, new int[][] {{0, 1, 2}});
        Check.end();
    }

    private static void due(HazardRules x, int cls, int k, int what, int[][] rows) {
        boolean in = k >= 0 && k < rows.length && what >= 0 && what < 3;
        Check.due("explain(" + cls + ", " + k + ", " + what + ")", x.explain(cls, k, what), in ? rows[k][what] : -1);
    }
}
