/** Promises 11, 12 and 13: cls by numbers, mark as they came to hold, moving the least. */
public final class HeldClassesTest {
    public static void main(String[] args) {
        HazardRules x = Check.load(6, "from 0 class 7 when test 0 is 1 end class 3 when test 0 is 1 end"
                + " class 19 when test 0 is 1 end class 7 when test 0 not 2 end class 4 when test 0 is 2 end"
                + " class 0 when test 1 is 1 end");
        x.test(0, 1);
        x.test(1, 1);
        Check.due("run(0)", x.run(0), 4);
        rowIs(x, new int[] {0, 3, 7, 19}, new int[] {7, 3, 19, 0});
        x.test(1, 2);
        Check.due("run(0)", x.run(0), 3);
        rowIs(x, new int[] {3, 7, 19}, new int[] {7, 3, 19});
        x.test(0, 2);
        x.test(1, HazardRules.NONE);
        Check.due("run(0): a rule is open", x.run(0), -6);
        rowIs(x, new int[] {4}, new int[] {4});
        x.test(0, 3);
        x.test(1, 2);
        Check.due("run(0)", x.run(0), 1);
        rowIs(x, new int[] {7}, new int[] {7});
        x.clearParts();
        Check.due("run(0)", x.run(0), -1);
        rowIs(x, new int[] {}, new int[] {});
        Check.end();
    }

    private static void rowIs(HazardRules x, int[] byNumber, int[] byTime) {
        for (int k = -2; k < 7; k++) {
            boolean in = k >= 0 && k < byNumber.length;
            Check.due("cls(" + k + ")", x.cls(k), in ? byNumber[k] : -1);
            Check.due("mark(" + k + ")", x.mark(k), in ? byTime[k] : -1);
        }
        for (int k : new int[] {20, 60, Integer.MIN_VALUE, Integer.MAX_VALUE}) {
            Check.due("cls(" + k + ")", x.cls(k), -1);
            Check.due("mark(" + k + ")", x.mark(k), -1);
        }
        Check.due("moving()", x.moving(), byNumber.length == 0 ? -1 : byNumber[0]);
    }
}
