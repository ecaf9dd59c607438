/** The boundary cases of promises 11 to 17 and 19: what is asked for is too small, too large or not there. */
public final class AnswerBoundsTest {
    private static final int MIN = Integer.MIN_VALUE;
    private static final int MAX = Integer.MAX_VALUE;
    private static final int[] FAR = {-2, 20, 60, 61, 256, MIN, MIN + 1, MAX - 1, MAX};

    public static void main(String[] args) {
        clsGoesByNumbers();
        markGoesByTimeEachOnce();
        movingIsTheLeast();
        openRulesAndTheirWhats();
        missingEachOnceAsItCameFirst();
        explainRulesAndTheirWhats();
        limitIsTheLeastBehindOver();
        limitIsOfTheEditionThatActed();
        tableThrowsBeyondItsItems();
        Check.end();
    }

    /** Classes 19, 0 and 5 hold, 19 by two rules; class 7 does not. */
    private static HazardRules threeClasses() {
        HazardRules x = Check.load(5, "from 0 class 19 when test 0 is 0 end class 0 when test 0 is 0 and test 0 not 1 end"
                + " class 19 when test 0 not 1 end class 7 when test 0 is 1 end class 5 when test 0 is 0 end");
        x.test(0, 0);
        Check.due("run(0)", x.run(0), 3);
        return x;
    }

    /** 'The k-th class that holds, from 0 on, by numbers; NONE when there is none such.' */
    private static void clsGoesByNumbers() {
        HazardRules x = threeClasses();
        Check.due("cls(-1)", x.cls(-1), -1);
        Check.due("cls(0)", x.cls(0), 0);
        Check.due("cls(1)", x.cls(1), 5);
        Check.due("cls(2)", x.cls(2), 19);
        Check.due("cls(3)", x.cls(3), -1);
        for (int far : FAR) {
            Check.due("cls(" + far + ")", x.cls(far), -1);
        }
    }

    /** 'in the order in which they came to hold (each once); NONE likewise.' */
    private static void markGoesByTimeEachOnce() {
        HazardRules x = threeClasses();
        Check.due("mark(-1)", x.mark(-1), -1);
        Check.due("mark(0)", x.mark(0), 19);
        Check.due("mark(1)", x.mark(1), 0);
        Check.due("mark(2)", x.mark(2), 5);
        Check.due("mark(3)", x.mark(3), -1);
        for (int far : FAR) {
            Check.due("mark(" + far + ")", x.mark(far), -1);
        }
        x = Check.load(3, "from 0 class 2 when test 0 is 0 end class 1 when test 0 is 1 end class 2 when test 0 is 1 end");
        x.test(0, 1);
        Check.due("run(0)", x.run(0), 2);
        Check.due("mark(0): the first rule of class 2 is not so", x.mark(0), 1);
        Check.due("mark(1)", x.mark(1), 2);
        Check.due("mark(2)", x.mark(2), -1);
    }

    /** 'The least class that holds; NONE when none does.' */
    private static void movingIsTheLeast() {
        HazardRules x = threeClasses();
        Check.due("moving()", x.moving(), 0);
        x.test(0, 1);
        Check.due("run(0)", x.run(0), 1);
        Check.due("moving()", x.moving(), 7);
        x.test(0, 2);
        Check.due("run(0)", x.run(0), 1);
        Check.due("moving()", x.moving(), 19);
        x.clearParts();
        Check.due("run(0)", x.run(0), -1);
        Check.due("moving(): all is open", x.moving(), -1);
    }

    /** Lines 1, 3, 4 and 5 are open. */
    private static HazardRules openRules() {
        HazardRules x = Check.load(6, "from 0 class 1 when test 0 is 0 end class 19 when test 7 is 0 end"
                + " class 1 when test 7 is 0 end class 0 when sum plus 1 of 0 over 0 end class 5 when test 7 is 1 end"
                + " class 6 when holds 19 end");
        x.test(0, 0);
        Check.due("run(0)", x.run(0), -2);
        return x;
    }

    /** 'Of the k-th open rule: what = 0 its line, 1 its class, 2 what it lacks; NONE when there is none such.' */
    private static void openRulesAndTheirWhats() {
        HazardRules x = openRules();
        int[][] due = {{1, 19, 107}, {3, 0, 0}, {4, 5, 107}, {5, 6, 319}};
        for (int k = -1; k <= due.length; k++) {
            for (int what = -1; what <= 3; what++) {
                boolean in = k >= 0 && k < due.length && what >= 0 && what < 3;
                Check.due("open(" + k + ", " + what + ")", x.open(k, what), in ? due[k][what] : -1);
            }
        }
        for (int far : FAR) {
            Check.due("open(" + far + ", 0)", x.open(far, 0), -1);
            Check.due("open(0, " + far + ")", x.open(0, far), -1);
        }
    }

    /** 'The k-th of what open rules lack, each once, as it came first; NONE when there is none such.' */
    private static void missingEachOnceAsItCameFirst() {
        HazardRules x = openRules();
        Check.due("missing(-1)", x.missing(-1), -1);
        Check.due("missing(0)", x.missing(0), 107);
        Check.due("missing(1)", x.missing(1), 0);
        Check.due("missing(2)", x.missing(2), 319);
        Check.due("missing(3)", x.missing(3), -1);
        for (int far : FAR) {
            Check.due("missing(" + far + ")", x.missing(far), -1);
        }
        x = Check.load(4, "from 0 class 1 when test 3 is 0 end class 1 when test 0 is 0 end"
                + " class 2 when test 4 is 0 end class 3 when test 3 is 0 end");
        x.test(0, 0);
        Check.due("run(0)", x.run(0), -3);
        Check.due("missing(0): class 1 holds, so it is no open rule's", x.missing(0), 104);
        Check.due("missing(1)", x.missing(1), 103);
        Check.due("missing(2)", x.missing(2), -1);
    }

    /** 'what = 0 its line, 1 how many items it has, 2 the number of its first word; NONE when there is none such.' */
    private static void explainRulesAndTheirWhats() {
        HazardRules x = threeClasses();
        explains(x, 19, new int[][] {{0, 1, 2}, {2, 1, 23}});
        explains(x, 0, new int[][] {{1, 2, 10}});
        explains(x, 5, new int[][] {{4, 1, 39}});
        explains(x, 7, new int[][] {});
        explains(x, 18, new int[][] {});
        explains(x, -1, new int[][] {});
        for (int far : FAR) {
            Check.due("explain(" + far + ", 0, 0)", x.explain(far, 0, 0), -1);
            Check.due("explain(19, " + far + ", 0)", x.explain(19, far, 0), -1);
            Check.due("explain(19, 0, " + far + ")", x.explain(19, 0, far), -1);
        }
    }

    private static void explains(HazardRules x, int cls, int[][] due) {
        for (int k = -1; k <= due.length; k++) {
            for (int what = -1; what <= 3; what++) {
                boolean in = k >= 0 && k < due.length && what >= 0 && what < 3;
                Check.due("explain(" + cls + ", " + k + ", " + what + ")", x.explain(cls, k, what), in ? due[k][what] : -1);
            }
        }
    }

    /** 'The least number behind over in all rules of a class ..; -1 when there is none' */
    private static void limitIsTheLeastBehindOver() {
        HazardRules x = Check.load(6, "from 0 class 0 when sum plus 1 of 0 over 8 and sum plus 1 of 0 under 2 end"
                + " class 0 when holds 1 and sum plus 1 of 0 over 7 and sum plus 1 of 0 over 9 end"
                + " class 19 when sum plus 1 of 0 over 999999999 end class 5 when sum plus 1 of 0 under 3 end"
                + " class 6 when test 0 is 1 end class 7 when sum plus 1 of 0 over 0 end");
        x.run(0);
        int[][] due = {{-1, -1}, {0, 7}, {1, -1}, {5, -1}, {6, -1}, {7, 0}, {19, 999999999}, {20, -1}};
        for (int[] row : due) {
            Check.due("limit(" + row[0] + ")", x.limit(row[0]), row[1]);
        }
        for (int far : FAR) {
            Check.due("limit(" + far + ")", x.limit(far), -1);
        }
    }

    /** 'of the edition that acted; -1 when there is none (or nothing acted)' */
    private static void limitIsOfTheEditionThatActed() {
        HazardRules x = Check.load(3, "from 1 class 1 when sum plus 1 of 0 over 5 end from 2"
                + " class 1 when sum plus 1 of 0 over 4 end class 1 when test 0 is 0 end from 3");
        Check.due("limit(1): nothing was looked at", x.limit(1), -1);
        int[] due = {-1, 5, 4, -1};
        for (int day = 3; day >= 0; day--) {
            x.run(day);
            Check.due("limit(1) behind run(" + day + ")", x.limit(1), due[day]);
            x.walk(3 - day);
            Check.due("limit(1) behind walk(" + (3 - day) + ")", x.limit(1), due[3 - day]);
        }
        x.test(0, 1);
        Check.due("run(2): line 1 is passed over", x.run(2), 0);
        Check.due("limit(1): all rules, that one too", x.limit(1), 4);
        Check.due("read()", x.read(), 0);
        Check.due("limit(1) behind read()", x.limit(1), -1);
    }

    /** 'What item k of rule t is .. ArrayIndexOutOfBoundsException: there is none such.' */
    private static void tableThrowsBeyondItsItems() {
        HazardRules x = Check.load(3, "from 0 class 0 when test 0 is 0 end class 1 when holds 0 and sum plus 1 of 0 over 0"
                + " and test 0 is 0 end from 1 class 2 when sum plus 1 of 0 plus 1 of 1 over 0 end");
        int[][] due = {{0}, {1, 2, 0}, {2}};
        for (int t = -1; t <= due.length; t++) {
            for (int k = -1; k <= 4; k++) {
                boolean in = t >= 0 && t < due.length && k >= 0 && k < due[t].length;
                table(x, t, k, in ? due[t][k] : -99);
            }
        }
        for (int far : FAR) {
            table(x, far, 0, -99);
            table(x, 0, far, -99);
        }
        table(new HazardRules(), 0, 0, -99);
        Check.due("read() of an empty text", x.read(), 0);
        table(x, 0, 0, -99);
    }

    private static void table(HazardRules x, int t, int k, int want) {
        int got;
        try {
            got = x.table(t, k);
        } catch (ArrayIndexOutOfBoundsException e) {
            got = -99;
        }
        Check.due("table(" + t + ", " + k + ") (-99: throws)", got, want);
    }
}
