/**
 * 'A call that is refused, or throws, changes nothing, where nothing else is said.' Each refused call
 * is made on one of two objects with the same calls behind them; all that can be seen of both is the same.
 */
public final class RefusedCallTest {
    private static final int MIN = Integer.MIN_VALUE;
    private static final int MAX = Integer.MAX_VALUE;

    private interface Call {
        void on(HazardRules x);
    }

    public static void main(String[] args) {
        refusedBytes();
        refusedSpans();
        refusedResults();
        noneSuchIsAsked();
        tableThrows();
        askingChangesNothing();
        wrongTextsEmptyTheTextAlone();
        Check.end();
    }

    private static void changesNothing(String name, Call call) {
        HazardRules asked = Picture.full();
        call.on(asked);
        Check.same("behind " + name, Picture.of(asked), Picture.of(Picture.full()));
        HazardRules fresh = new HazardRules();
        call.on(fresh);
        Check.same("on a new object behind " + name, Picture.of(fresh), Picture.of(new HazardRules()));
    }

    private static void refusedBytes() {
        for (int u : new int[] {-1, 256, 256 + 'o', MIN, MAX}) {
            changesNothing("unit(" + u + ")", x -> Check.due("unit(" + u + ")", x.unit(u), false));
        }
    }

    private static void refusedSpans() {
        long[][] wrong = {
            {-1, 1, 2}, {16, 1, 2}, {MIN, 1, 2}, {MAX, 1, 2}, {3, -1, 2}, {3, 2, 1}, {3, 1, 1000001},
            {3, 1000001, 1000001}, {3, -2, -1}, {3, Long.MIN_VALUE, 1}, {3, 1, Long.MAX_VALUE},
            {3, 1L << 32, 1L << 32}
        };
        for (long[] row : wrong) {
            String name = "part(" + row[0] + ", " + row[1] + ", " + row[2] + ")";
            changesNothing(name, x -> Check.due(name, x.part((int) row[0], row[1], row[2]), false));
        }
    }

    private static void refusedResults() {
        int[][] wrong = {
            {-1, 4}, {8, 4}, {MIN, 4}, {MAX, 4}, {-1, -1}, {8, -1}, {0, -2}, {0, 10}, {7, -2}, {7, 10}, {1, 10},
            {1, -2}, {0, MIN}, {7, MAX}
        };
        for (int[] row : wrong) {
            String name = "test(" + row[0] + ", " + row[1] + ")";
            changesNothing(name, x -> Check.due(name, x.test(row[0], row[1]), false));
        }
    }

    private static void noneSuchIsAsked() {
        for (int wrong : new int[] {-2, 60, MIN, MAX}) {
            changesNothing("asking for " + wrong, x -> {
                Check.due("cls", x.cls(wrong), -1);
                Check.due("mark", x.mark(wrong), -1);
                Check.due("open", x.open(wrong, 0), -1);
                Check.due("open", x.open(0, wrong), -1);
                Check.due("missing", x.missing(wrong), -1);
                Check.due("explain", x.explain(wrong, 0, 0), -1);
                Check.due("explain", x.explain(19, wrong, 0), -1);
                Check.due("explain", x.explain(19, 0, wrong), -1);
                Check.due("limit", x.limit(wrong), -1);
                Check.due("sum", x.sum(wrong, 0, -1), 0);
                Check.due("sum", x.sum(0, wrong, -1), 0);
                Check.due("sum", x.sum(0, 0, wrong), 0);
                Check.due("write", x.write(wrong == 60 ? 3000 : wrong), -1);
            });
        }
    }

    private static void tableThrows() {
        int[][] wrong = {{-1, 0}, {4, 0}, {0, -1}, {0, 1}, {MIN, 0}, {MAX, 0}, {0, MIN}, {0, MAX}, {MAX, MAX}};
        for (int[] row : wrong) {
            changesNothing("table(" + row[0] + ", " + row[1] + ")", x -> throwsOutOfBounds(x, row[0], row[1]));
        }
    }

    private static void throwsOutOfBounds(HazardRules x, int t, int k) {
        boolean thrown = false;
        try {
            x.table(t, k);
        } catch (ArrayIndexOutOfBoundsException e) {
            thrown = true;
        }
        Check.due("table(" + t + ", " + k + ") throws", thrown, true);
    }

    private static void askingChangesNothing() {
        changesNothing("asking", x -> {
            x.edition(2);
            x.cls(0);
            x.mark(0);
            x.moving();
            x.open(0, 2);
            x.missing(0);
            x.explain(19, 0, 0);
            x.limit(19);
            x.sum(0, 1, -1);
            x.write(3);
        });
    }

    /** 'when it is none (and all is as before but that the text is empty)' */
    private static void wrongTextsEmptyTheTextAlone() {
        String[] endings = {"", "o", "om", "om 8", "om 7", "om 9 class 20", "om 9 class 1 when holds 1"};
        int[] due = {-3, -3, -4, -4, -4, -6, -10};
        for (int e = 0; e < endings.length; e++) {
            HazardRules wrong = Picture.full();
            Check.feed(wrong, endings[e]);
            Check.due("read() of 'from 8 fr" + endings[e] + "'", wrong.read(), due[e]);
            Check.feed(wrong, "from 8 fr");
            Check.same("behind a wrong text", Picture.of(wrong), Picture.of(Picture.full()));
        }
        HazardRules fresh = new HazardRules();
        Check.feed(fresh, "fr");
        Check.due("read() of 'fr'", fresh.read(), -1);
        Check.same("behind a wrong text on a new object", Picture.of(fresh), Picture.of(new HazardRules()));
    }
}
