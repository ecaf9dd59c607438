/**
 * The boundary cases of a new object, of days and of facts: promises 1 and 4 to 8, and what 'Terms'
 * says of them. A method for each sentence.
 */
public final class FactBoundsTest {
    private static final int MIN = Integer.MIN_VALUE;
    private static final int MAX = Integer.MAX_VALUE;

    public static void main(String[] args) {
        aNewObjectHasNothing();
        theWayIsStrictAtFirst();
        noEditionActsBeforeTheFirstDay();
        anEditionActsFromItsDayOn();
        daysAreLong();
        partsAre0To15();
        aSpanIsOf0To1000000();
        lowIsNotGreaterThanHigh();
        aSecondSpanTakesTheFirstOnesPlace();
        testsAre0To7();
        resultsAre0To9();
        noneTakesAResultAway();
        clearPartsTakesAllFacts();
        wayAnswersWhatWas();
        Check.end();
    }

    /** 'No text, no rules, no facts; ..; nothing was looked at.' */
    private static void aNewObjectHasNothing() {
        HazardRules x = new HazardRules();
        Check.due("edition(max)", x.edition(Long.MAX_VALUE), -1);
        Check.due("cls(0)", x.cls(0), -1);
        Check.due("mark(0)", x.mark(0), -1);
        Check.due("moving()", x.moving(), -1);
        Check.due("open(0, 0)", x.open(0, 0), -1);
        Check.due("missing(0)", x.missing(0), -1);
        Check.due("explain(0, 0, 0)", x.explain(0, 0, 0), -1);
        Check.due("limit(0)", x.limit(0), -1);
        Check.due("sum(0, 0, -1)", x.sum(0, 0, -1), 0);
        Check.due("write(0)", x.write(0), -1);
        Check.due("run(0)", x.run(0), 0);
        Check.due("walk(max)", x.walk(Long.MAX_VALUE), 0);
        Check.due("cls(0) behind it", x.cls(0), -1);
        Check.due("limit(0) behind it", x.limit(0), -1);
        Check.due("read(): the text is empty", x.read(), 0);
    }

    /** 'The WAY is strict at first.' */
    private static void theWayIsStrictAtFirst() {
        Check.due("way(true)", new HazardRules().way(true), true);
        Check.due("way(false)", new HazardRules().way(false), true);
        HazardRules x = Check.load(1, "from 0 class 1 when sum plus 1 of 0 over 5 end");
        x.part(0, 5, 6);
        Check.due("run(0): over at high", x.run(0), 1);
    }

    /** 'NONE when there is none.' */
    private static void noEditionActsBeforeTheFirstDay() {
        HazardRules x = Check.load(0, "from 0");
        Check.due("edition(-1)", x.edition(-1), -1);
        Check.due("edition(0)", x.edition(0), 0);
        Check.due("edition(min)", x.edition(Long.MIN_VALUE), -1);
        x = Check.load(0, "from 999999999");
        Check.due("edition(999999998)", x.edition(999999998), -1);
        Check.due("edition(999999999)", x.edition(999999999), 0);
    }

    /** 'On a day the edition ACTS with the greatest day that is not greater.' */
    private static void anEditionActsFromItsDayOn() {
        HazardRules x = Check.load(3, "from 3 class 3 when test 0 is 0 end from 4 class 4 when test 0 is 0 end"
                + " from 9 class 9 when test 0 is 0 end");
        x.test(0, 0);
        int[] days = {2, 3, 4, 5, 8, 9, 10};
        int[] editions = {-1, 0, 1, 1, 1, 2, 2};
        int[] classes = {-1, 3, 4, 4, 4, 9, 9};
        for (int i = 0; i < days.length; i++) {
            int held = classes[i] == -1 ? 0 : 1;
            Check.due("edition(" + days[i] + ")", x.edition(days[i]), editions[i]);
            Check.due("run(" + days[i] + ")", x.run(days[i]), held);
            Check.due("cls(0) of run(" + days[i] + ")", x.cls(0), classes[i]);
            Check.due("walk(" + days[i] + ")", x.walk(days[i]), held);
            Check.due("cls(0) of walk(" + days[i] + ")", x.cls(0), classes[i]);
        }
    }

    /** Days go beyond ints, both ways. */
    private static void daysAreLong() {
        HazardRules x = Check.load(2, "from 3 class 3 when test 0 is 0 end from 9 class 9 when test 0 is 0 end");
        x.test(0, 0);
        long[] late = {1L << 32, (1L << 32) + 5, Integer.MAX_VALUE + 1L, Long.MAX_VALUE};
        long[] early = {-1, Integer.MIN_VALUE, -(1L << 32) + 5, -(1L << 32) + 10, Long.MIN_VALUE};
        for (long day : late) {
            Check.due("edition(" + day + ")", x.edition(day), 1);
            Check.due("run(" + day + ")", x.run(day), 1);
            Check.due("cls(0)", x.cls(0), 9);
            Check.due("walk(" + day + ")", x.walk(day), 1);
        }
        for (long day : early) {
            Check.due("edition(" + day + ")", x.edition(day), -1);
            Check.due("run(" + day + ")", x.run(day), 0);
            Check.due("walk(" + day + ")", x.walk(day), 0);
        }
    }

    private static HazardRules sumOf(int part) {
        return Check.load(1, "from 0 class 1 when sum plus 1 of " + part + " over 0 end");
    }

    private static void spanIs(HazardRules x, String call, long low, long high) {
        Check.due("sum(0, 0, -1) behind " + call, x.sum(0, 0, -1), low);
        Check.due("sum(0, 1, -1) behind " + call, x.sum(0, 1, -1), high);
    }

    /** 'each PART 0 .. 15 may have a SPAN' */
    private static void partsAre0To15() {
        for (int part : new int[] {0, 15}) {
            HazardRules x = sumOf(part);
            for (int wrong : new int[] {-1, 16, 31, 32, MIN, MAX}) {
                Check.due("part(" + wrong + ", 1, 2)", x.part(wrong, 1, 2), false);
            }
            Check.due("run(0): part " + part + " has none", x.run(0), -1);
            Check.due("part(" + part + ", 3, 4)", x.part(part, 3, 4), true);
            spanIs(x, "part(" + part + ", 3, 4)", 3, 4);
            for (int wrong : new int[] {-1, 16, 31, 32, MIN, MAX}) {
                Check.due("part(" + wrong + ", 1, 2)", x.part(wrong, 1, 2), false);
                spanIs(x, "part(" + wrong + ", 1, 2)", 3, 4);
            }
        }
    }

    /** 'A part's span, of 0 .. 1000000 each' */
    private static void aSpanIsOf0To1000000() {
        HazardRules x = sumOf(6);
        span(x, 0, 0, true);
        span(x, 0, 1000000, true);
        span(x, 1000000, 1000000, true);
        span(x, 7, 8, true);
        span(x, -1, 0, false);
        span(x, -1, 1000000, false);
        span(x, -1, -1, false);
        span(x, 0, 1000001, false);
        span(x, 1000000, 1000001, false);
        span(x, 1000001, 1000001, false);
        span(x, Long.MIN_VALUE, Long.MAX_VALUE, false);
        span(x, 1L << 32, (1L << 32) + 1, false);
        span(x, 0, 1L << 32, false);
        span(x, -(1L << 32), 5, false);
    }

    /** Behind a refused one the span is 7 .. 8, as it was last. */
    private static void span(HazardRules x, long low, long high, boolean taken) {
        String call = "part(6, " + low + ", " + high + ")";
        Check.due(call, x.part(6, low, high), taken);
        spanIs(x, call, taken ? low : 7, taken ? high : 8);
    }

    /** 'low not greater than high' */
    private static void lowIsNotGreaterThanHigh() {
        HazardRules x = sumOf(6);
        span(x, 7, 8, true);
        span(x, 1, 0, false);
        span(x, 1000000, 999999, false);
        span(x, 1000000, 0, false);
        span(x, 9, 8, false);
        span(x, 0, -1, false);
        span(x, 9, 9, true);
        span(x, 9, 10, true);
    }

    private static void aSecondSpanTakesTheFirstOnesPlace() {
        HazardRules x = sumOf(6);
        span(x, 500, 600, true);
        span(x, 3, 4, true);
        span(x, 700, 700, true);
    }

    /** 'each TEST 0 .. 7 a RESULT' */
    private static void testsAre0To7() {
        for (int kind : new int[] {0, 7}) {
            HazardRules x = Check.load(1, "from 0 class 1 when test " + kind + " is 4 end");
            for (int wrong : new int[] {-1, 8, 15, 16, MIN, MAX}) {
                Check.due("test(" + wrong + ", 4)", x.test(wrong, 4), false);
                Check.due("test(" + wrong + ", NONE)", x.test(wrong, -1), false);
            }
            Check.due("run(0): test " + kind + " has none", x.run(0), -1);
            Check.due("test(" + kind + ", 4)", x.test(kind, 4), true);
            for (int wrong : new int[] {-1, 8, 15, 16, MIN, MAX}) {
                Check.due("test(" + wrong + ", 5)", x.test(wrong, 5), false);
                Check.due("test(" + wrong + ", NONE)", x.test(wrong, -1), false);
            }
            Check.due("run(0): it is 4", x.run(0), 1);
        }
    }

    /** 'a RESULT, 0 .. 9' */
    private static void resultsAre0To9() {
        for (int result : new int[] {0, 9}) {
            HazardRules x = Check.load(1, "from 0 class 1 when test 3 is " + result + " end");
            for (int wrong : new int[] {-2, 10, MIN, MAX}) {
                Check.due("test(3, " + wrong + ")", x.test(3, wrong), false);
                Check.due("run(0): it has none", x.run(0), -1);
            }
            Check.due("test(3, " + result + ")", x.test(3, result), true);
            Check.due("run(0)", x.run(0), 1);
            for (int wrong : new int[] {-2, 10, MIN, MAX}) {
                Check.due("test(3, " + wrong + ")", x.test(3, wrong), false);
                Check.due("run(0): as it was", x.run(0), 1);
            }
        }
    }

    /** 'NONE: it has none.' */
    private static void noneTakesAResultAway() {
        HazardRules x = Check.load(2, "from 0 class 1 when test 0 is 0 end class 2 when test 7 is 9 end");
        Check.due("test(0, NONE) of none", x.test(0, -1), true);
        Check.due("test(0, 0)", x.test(0, 0), true);
        Check.due("test(7, 9)", x.test(7, 9), true);
        Check.due("run(0)", x.run(0), 2);
        Check.due("test(0, NONE)", x.test(0, -1), true);
        Check.due("run(0): the other stays", x.run(0), -1);
        Check.due("cls(0)", x.cls(0), 2);
        Check.due("test(7, NONE)", x.test(7, -1), true);
        Check.due("run(0)", x.run(0), -1);
        Check.due("missing(1)", x.missing(1), 107);
    }

    /** 'No part has a span, no test a result any more.' */
    private static void clearPartsTakesAllFacts() {
        for (int part : new int[] {0, 15}) {
            for (int kind : new int[] {0, 7}) {
                HazardRules x = Check.load(2, "from 0 class 1 when sum plus 1 of " + part + " over 0 end"
                        + " class 2 when test " + kind + " is 0 end");
                x.clearParts();
                Check.due("run(0): none had any", x.run(0), -1);
                x.part(part, 1000000, 1000000);
                x.test(kind, 0);
                Check.due("run(0)", x.run(0), 2);
                x.clearParts();
                Check.due("sum(0, 1, -1)", x.sum(0, 1, -1), 0);
                Check.due("cls(1): what was looked at stays", x.cls(1), 2);
                Check.due("run(0)", x.run(0), -1);
                Check.due("missing(0)", x.missing(0), part);
                Check.due("missing(1)", x.missing(1), 100 + kind);
            }
        }
        HazardRules x = new HazardRules();
        x.way(false);
        x.clearParts();
        Check.due("way(true): it stays", x.way(true), false);
    }

    /** 'Answers whether it was strict.' */
    private static void wayAnswersWhatWas() {
        HazardRules x = new HazardRules();
        boolean was = true;
        for (boolean next : new boolean[] {true, true, false, false, true, false, true, true}) {
            Check.due("way(" + next + ")", x.way(next), was);
            was = next;
        }
    }
}
