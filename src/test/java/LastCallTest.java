/** 'An object is used for at most 512 calls after it has been made': up to the last of them all holds. */
public final class LastCallTest {
    private static final int CALLS = 512;

    public static void main(String[] args) {
        theLongestText();
        looksToTheEnd();
        readsToTheEnd();
        laterCallsEnd();
        Check.end();
    }

    /** 508 bytes, read, a result, a look, and a question. */
    private static void theLongestText() {
        String rule = " class 7 when test 0 is 0 end";
        String text = "from 1" + rule.repeat(17);
        text = text + " ".repeat(CALLS - 4 - text.length());
        HazardRules x = Check.load(17, text);
        Check.due("call 510: test(0, 0)", x.test(0, 0), true);
        Check.due("call 511: walk(1)", x.walk(1), 1);
        Check.due("call 512: explain(7, 16, 0)", x.explain(7, 16, 0), 16);
    }

    private static void looksToTheEnd() {
        String text = "from 1 class 3 when sum plus 1 of 2 over 5 end from 2 class 4 when holds 3 end class 5 when test 1 is 1 end";
        HazardRules x = Check.load(3, text);
        Check.due("part(2, 6, 6)", x.part(2, 6, 6), true);
        for (int call = text.length() + 3; call <= CALLS; call++) {
            int day = call % 3;
            int due = day == 0 ? 0 : day == 1 ? 1 : -3;
            if (call % 2 == 0) {
                Check.due("call " + call + ": walk(" + day + ")", x.walk(day), due);
            } else {
                Check.due("call " + call + ": run(" + day + ")", x.run(day), due);
            }
        }
    }

    private static void readsToTheEnd() {
        HazardRules x = new HazardRules();
        for (int call = 1; call <= CALLS; call += 8) {
            int day = call % 10;
            Check.feed(x, "from " + day);
            Check.due("read()", x.read(), 0);
            Check.due("call " + (call + 7) + ": edition(" + day + ")", x.edition(day), 0);
        }
    }

    /** What later calls answer is free; yet none may fail. */
    private static void laterCallsEnd() {
        HazardRules x = new HazardRules();
        for (int call = 0; call < 5000; call++) {
            x.unit(call % 2 == 0 ? 'x' : ' ');
        }
        Check.due("read()", x.read(), -1);
        for (int call = 0; call < 5000; call++) {
            x.run(call);
            x.walk(call);
        }
        Check.due("run(0)", x.run(0), 0);
    }
}
