/** Promise 5: a part's span. */
public final class PartTest {
    public static void main(String[] args) {
        everyPartHasItsOwnSpan();
        wrongSpansAreRefused();
        Check.end();
    }

    private static void everyPartHasItsOwnSpan() {
        for (int p = 0; p < 16; p++) {
            HazardRules x = Check.load(1, "from 0 class 1 when sum plus 1 of " + p + " over 0 end");
            for (int other = 0; other < 16; other++) {
                if (other != p) {
                    Check.due("part(" + other + ", 7, 8)", x.part(other, 7, 8), true);
                }
            }
            Check.due("run(0) without part " + p, x.run(0), -1);
            Check.due("part(" + p + ", 3, 5)", x.part(p, 3, 5), true);
            Check.due("sum(0, 0, -1)", x.sum(0, 0, -1), 3);
            Check.due("sum(0, 1, -1)", x.sum(0, 1, -1), 5);
            Check.due("run(0) with part " + p, x.run(0), 1);
        }
    }

    private static void wrongSpansAreRefused() {
        HazardRules x = Check.load(1, "from 0 class 1 when sum plus 1 of 4 over 0 end");
        Check.due("part(4, 0, 1000000)", x.part(4, 0, 1000000), true);
        spanIs(x, 0, 1000000);
        Check.due("part(4, 1000000, 1000000)", x.part(4, 1000000, 1000000), true);
        spanIs(x, 1000000, 1000000);
        Check.due("part(4, 0, 0)", x.part(4, 0, 0), true);
        spanIs(x, 0, 0);
        Check.due("part(4, 20, 30)", x.part(4, 20, 30), true);
        long[][] wrong = {
            {4, -1, 5}, {4, -5, -1}, {4, 5, 4}, {4, 0, 1000001}, {4, 1000001, 1000001}, {-1, 1, 2}, {16, 1, 2},
            {4, Long.MIN_VALUE, 2}, {4, 1, Long.MAX_VALUE}, {4, 0, -1}, {4, 1L << 32, (1L << 32) + 1},
            {Integer.MIN_VALUE, 1, 2}, {Integer.MAX_VALUE, 1, 2}, {20, 1, 2}
        };
        for (long[] row : wrong) {
            Check.due("part(" + row[0] + ", " + row[1] + ", " + row[2] + ")", x.part((int) row[0], row[1], row[2]), false);
            spanIs(x, 20, 30);
        }
    }

    private static void spanIs(HazardRules x, long low, long high) {
        Check.due("sum(0, 0, -1)", x.sum(0, 0, -1), low);
        Check.due("sum(0, 1, -1)", x.sum(0, 1, -1), high);
    }
}
