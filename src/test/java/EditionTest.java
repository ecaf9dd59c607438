/** Promise 4: the edition that acts on a day. */
public final class EditionTest {
    public static void main(String[] args) {
        HazardRules x = Check.load(1, "from 5 from 6 class 1 when test 0 is 0 end from 10 from 999999999");
        long[][] due = {
            {Long.MIN_VALUE, -1}, {-1, -1}, {0, -1}, {4, -1}, {5, 0}, {6, 1}, {7, 1}, {9, 1}, {10, 2}, {11, 2},
            {999999998, 2}, {999999999, 3}, {1L << 32, 3}, {(1L << 32) + 4, 3}, {Long.MAX_VALUE, 3}
        };
        for (long[] row : due) {
            Check.due("edition(" + row[0] + ")", x.edition(row[0]), row[1]);
        }
        x.test(0, 0);
        Check.due("run(6)", x.run(6), 1);
        Check.due("edition(5) behind run(6)", x.edition(5), 0);
        Check.due("explain(1, 0, 0) is of run(6) still", x.explain(1, 0, 0), 0);
        Check.due("edition(0) from 0", Check.load(0, "from 0").edition(0), 0);
        Check.due("edition(-1) from 0", Check.load(0, "from 0").edition(-1), -1);
        Check.end();
    }
}
