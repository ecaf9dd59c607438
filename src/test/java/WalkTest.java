/** Promise 10: the same as run(), anew, word by word. */
public final class WalkTest {
    public static void main(String[] args) {
        leavesTheSame();
        takesTheLatestFactsAndWay();
        theLatestOfBothCounts();
        textThatWaitsStays();
        Check.end();
    }

    private static void leavesTheSame() {
        HazardRules x = Check.load(5, "  from 5 class 3 when test 0 is 1 end\n\nclass 1  when sum plus 2 of 1 cut 4 by 3 over 09 end"
                + " class 3 when test 0 not 2 and test 0 not 3 end class 0 when holds 3 and test 2 is 2 end"
                + " from 6 class 2 when holds 2 end ");
        x.test(0, 1);
        x.part(1, 3, 15);
        Check.due("walk(5)", x.walk(5), -4);
        Check.due("cls(0)", x.cls(0), 1);
        Check.due("cls(1)", x.cls(1), 3);
        Check.due("cls(2)", x.cls(2), -1);
        Check.due("mark(0)", x.mark(0), 3);
        Check.due("mark(1)", x.mark(1), 1);
        Check.due("mark(2)", x.mark(2), -1);
        Check.due("moving()", x.moving(), 1);
        Check.due("open(0, 0)", x.open(0, 0), 3);
        Check.due("open(0, 1)", x.open(0, 1), 0);
        Check.due("open(0, 2)", x.open(0, 2), 102);
        Check.due("missing(0)", x.missing(0), 102);
        Check.due("explain(3, 1, 0)", x.explain(3, 1, 0), 2);
        Check.due("explain(3, 1, 1)", x.explain(3, 1, 1), 2);
        Check.due("explain(3, 1, 2)", x.explain(3, 1, 2), 25);
        Check.due("limit(1)", x.limit(1), 9);
        Check.due("sum(1, 1, -1)", x.sum(1, 1, -1), 10);
        Check.due("table(3, 1)", x.table(3, 1), 0);
        Check.due("write(0)", x.write(0), 'f');
        Check.due("edition(6)", x.edition(6), 1);
        Check.due("walk(4)", x.walk(4), 0);
        Check.due("cls(0)", x.cls(0), -1);
        Check.due("limit(1)", x.limit(1), -1);
        Check.due("walk(6)", x.walk(6), 0);
    }

    private static void takesTheLatestFactsAndWay() {
        HazardRules x = Check.load(1, "from 0 class 1 when sum plus 1 of 1 over 5 end");
        Check.due("walk(0)", x.walk(0), -1);
        x.part(1, 5, 6);
        Check.due("walk(0)", x.walk(0), 1);
        x.way(false);
        Check.due("walk(0)", x.walk(0), 0);
        x.clearParts();
        Check.due("cls(0)", x.cls(0), -1);
        Check.due("walk(0)", x.walk(0), -1);
    }

    private static void theLatestOfBothCounts() {
        HazardRules x = Check.load(2, "from 1 class 1 when test 0 is 0 end from 2 class 2 when test 0 is 0 end");
        x.test(0, 0);
        Check.due("walk(1)", x.walk(1), 1);
        Check.due("run(2)", x.run(2), 1);
        Check.due("cls(0)", x.cls(0), 2);
        Check.due("walk(1)", x.walk(1), 1);
        Check.due("cls(0)", x.cls(0), 1);
        Check.due("cls(1)", x.cls(1), -1);
    }

    private static void textThatWaitsStays() {
        HazardRules x = Check.load(1, "from 1 class 1 when test 0 is 0 end");
        Check.feed(x, "from 3 fr");
        Check.due("walk(1)", x.walk(1), -1);
        Check.feed(x, "om 4");
        Check.due("read()", x.read(), 0);
        Check.due("edition(4)", x.edition(4), 1);
    }
}
