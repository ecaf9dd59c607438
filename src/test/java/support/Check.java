import java.util.List;

/** What every test uses: compares an answer with the one that is due, and ends the test. */
final class Check {
    private static int checked = 0;
    private static int wrong = 0;

    private Check() {
    }

    static void due(String call, long got, long want) {
        checked++;
        if (got != want) {
            wrong++;
            System.out.println(call + " answered " + got + ", due is " + want);
        }
    }

    static void due(String call, boolean got, boolean want) {
        due(call, got ? 1 : 0, want ? 1 : 0);
    }

    /** Two objects of which the same is due: tells the first answer in which they differ. */
    static void same(String after, List<String> got, List<String> want) {
        int at = 0;
        while (at < got.size() && at < want.size() && got.get(at).equals(want.get(at))) {
            at++;
        }
        boolean alike = got.size() == want.size() && at == got.size();
        String differs = alike ? "" : ": " + got.get(at) + ", due is " + want.get(at);
        due("as before " + after + differs, alike, true);
    }

    /** Feeds a text's bytes; every one of them must be taken. */
    static void feed(HazardRules x, String text) {
        for (int i = 0; i < text.length(); i++) {
            due("unit(" + (int) text.charAt(i) + ")", x.unit(text.charAt(i)), true);
        }
    }

    /** A new object that has read a text of so many rules. */
    static HazardRules load(int rules, String text) {
        HazardRules x = new HazardRules();
        feed(x, text);
        due("read() of " + text, x.read(), rules);
        return x;
    }

    static void end() {
        System.out.println(wrong == 0 ? checked + " answers are as due" : wrong + " of " + checked + " answers are not as due");
        if (wrong != 0 || checked == 0) {
            System.exit(1);
        }
    }
}
