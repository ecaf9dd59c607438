/** Promise 1: no text, no rules, no facts; strict; nothing was looked at. */
public final class NewObjectTest {
    public static void main(String[] args) {
        nothingWasLookedAt();
        noTextAndNoRules();
        noFacts();
        Check.due("way(true)", new HazardRules().way(true), true);
        Check.due("NONE", HazardRules.NONE, -1);
        objectsAreApart();
        Check.end();
    }

    private static void nothingWasLookedAt() {
        HazardRules x = new HazardRules();
        Check.due("cls(0)", x.cls(0), -1);
        Check.due("mark(0)", x.mark(0), -1);
        Check.due("moving()", x.moving(), -1);
        for (int what = 0; what < 3; what++) {
            Check.due("open(0, " + what + ")", x.open(0, what), -1);
            Check.due("explain(0, 0, " + what + ")", x.explain(0, 0, what), -1);
        }
        Check.due("missing(0)", x.missing(0), -1);
        Check.due("limit(0)", x.limit(0), -1);
    }

    private static void noTextAndNoRules() {
        HazardRules x = new HazardRules();
        Check.due("edition(0)", x.edition(0), -1);
        Check.due("edition(max)", x.edition(Long.MAX_VALUE), -1);
        Check.due("run(0)", x.run(0), 0);
        Check.due("walk(0)", x.walk(0), 0);
        Check.due("sum(0, 0, -1)", x.sum(0, 0, -1), 0);
        Check.due("write(0)", x.write(0), -1);
        Check.due("read()", x.read(), 0);
    }

    private static void noFacts() {
        for (int p = 0; p < 16; p++) {
            lacksOneFact("sum plus 1 of " + p + " over 0", p);
        }
        for (int t = 0; t < 8; t++) {
            lacksOneFact("test " + t + " is 0", 100 + t);
        }
    }

    private static void lacksOneFact(String item, int lack) {
        HazardRules x = Check.load(1, "from 0 class 1 when " + item + " end");
        Check.due("run(0) of " + item, x.run(0), -1);
        Check.due("open(0, 2) of " + item, x.open(0, 2), lack);
        Check.due("missing(0) of " + item, x.missing(0), lack);
    }

    private static void objectsAreApart() {
        HazardRules one = Check.load(1, "from 0 class 1 when test 0 is 1 end");
        HazardRules other = new HazardRules();
        one.test(0, 1);
        one.way(false);
        Check.due("run(0)", one.run(0), 1);
        Check.due("cls(0) of another object", other.cls(0), -1);
        Check.due("edition(0) of another object", other.edition(0), -1);
        Check.due("way(true) of another object", other.way(true), true);
    }
}
