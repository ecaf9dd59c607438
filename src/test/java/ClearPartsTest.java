/** Promise 7: no part has a span, no test a result any more. */
public final class ClearPartsTest {
    public static void main(String[] args) {
        everyPartAndTestIsCleared();
        theRestStays();
        Check.end();
    }

    private static void everyPartAndTestIsCleared() {
        for (int p = 0; p < 16; p++) {
            int t = p % 8;
            HazardRules x = Check.load(2, "from 0 class 1 when sum plus 1 of " + p + " over 0 end class 2 when test "
                    + t + " is 1 end");
            x.part(p, 1, 2);
            x.test(t, 1);
            Check.due("run(0)", x.run(0), 2);
            x.clearParts();
            Check.due("run(0) behind clearParts()", x.run(0), -1);
            Check.due("missing(0)", x.missing(0), p);
            Check.due("missing(1)", x.missing(1), 100 + t);
            x.part(p, 1, 2);
            Check.due("sum(0, 1, -1) of a new span", x.sum(0, 1, -1), 2);
        }
    }

    private static void theRestStays() {
        HazardRules x = Check.load(1, "from 3 class 1 when sum plus 1 of 2 over 5 end");
        x.part(2, 4, 6);
        x.way(false);
        x.way(true);
        Check.due("run(3)", x.run(3), 1);
        x.way(false);
        Check.feed(x, "fro");
        x.clearParts();
        Check.due("sum(0, 1, -1): as facts are now", x.sum(0, 1, -1), 0);
        Check.due("cls(0): as facts were then", x.cls(0), 1);
        Check.due("limit(1): as it was", x.limit(1), 5);
        Check.due("way(false): as it was", x.way(false), false);
        Check.due("edition(3): as it was", x.edition(3), 0);
        Check.feed(x, "m 8");
        Check.due("read(): the text is as it was", x.read(), 0);
    }
}
