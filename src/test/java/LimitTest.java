/** Promise 17: the least number behind over in the rules of a class of the edition that acted. */
public final class LimitTest {
    public static void main(String[] args) {
        HazardRules x = Check.load(6, "from 1 class 1 when sum plus 1 of 0 over 50 and sum plus 1 of 0 over 40 end"
                + " class 1 when sum plus 1 of 0 under 3 and sum plus 1 of 1 over 45 end class 2 when sum plus 1 of 0 under 6 end"
                + " class 3 when test 0 is 1 end class 3 when sum plus 1 of 0 over 999999999 end from 2"
                + " class 1 when sum plus 1 of 0 over 0 end from 3");
        Check.due("limit(1): nothing was looked at", x.limit(1), -1);
        limits(x, 1, 40, -1, 999999999);
        limits(x, 2, 0, -1, -1);
        limits(x, 3, -1, -1, -1);
        limits(x, 1, 40, -1, 999999999);
        limits(x, 0, -1, -1, -1);
        x.part(0, 0, 0);
        x.part(1, 0, 0);
        x.test(0, 1);
        limits(x, 1, 40, -1, 999999999);
        x.clearParts();
        Check.due("limit(1)", x.limit(1), 40);
        for (int wrong : new int[] {-1, 0, 19, 20, Integer.MIN_VALUE, Integer.MAX_VALUE}) {
            Check.due("limit(" + wrong + ")", x.limit(wrong), -1);
        }
        Check.end();
    }

    private static void limits(HazardRules x, long day, long one, long two, long three) {
        x.run(day);
        Check.due("limit(1) on " + day, x.limit(1), one);
        Check.due("limit(2) on " + day, x.limit(2), two);
        Check.due("limit(3) on " + day, x.limit(3), three);
        x.walk(day);
        Check.due("limit(1) on " + day, x.limit(1), one);
        Check.due("limit(3) on " + day, x.limit(3), three);
    }
}
