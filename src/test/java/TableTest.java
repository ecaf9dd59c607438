/** Promise 19: what an item is; ArrayIndexOutOfBoundsException when there is none such. */
public final class TableTest {
    public static void main(String[] args) {
        HazardRules x = Check.load(3, "from 1 class 1 when sum plus 1 of 1 plus 1 of 1 over 0 and test 0 is 0 and holds 2 end"
                + " class 1 when holds 3 end from 2 class 2 when test 0 not 1 and sum minus 1 of 1 under 1 end");
        Check.due("run(2)", x.run(2), -3);
        int[][] kinds = {{2, 0, 1}, {1}, {0, 2}};
        for (int t = -1; t < 5; t++) {
            for (int k = -1; k < 5; k++) {
                boolean in = t >= 0 && t < kinds.length && k >= 0 && k < kinds[t].length;
                due(x, t, k, in ? kinds[t][k] : THROWS);
            }
        }
        for (int wrong : new int[] {Integer.MIN_VALUE, Integer.MAX_VALUE, 60, 256}) {
            due(x, wrong, 0, THROWS);
            due(x, 0, wrong, THROWS);
        }
        Check.due("open(0, 2) behind a throw", x.open(0, 2), 100);
        due(new HazardRules(), 0, 0, THROWS);
        Check.end();
    }

    private static final int THROWS = -99;

    private static void due(HazardRules x, int t, int k, int want) {
        int got;
        try {
            got = x.table(t, k);
        } catch (ArrayIndexOutOfBoundsException e) {
            got = THROWS;
        }
        Check.due("table(" + t + ", " + k + ") (" + THROWS + ": throws)", got, want);
    }
}
