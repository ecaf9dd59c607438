/** Promise 20: the rules' text, its words with one blank between. */
public final class WriteTest {
    public static void main(String[] args) {
        writes("from 1", "from 1");
        writes("\n  from\n \n0001   ", "from 0001");
        writes("", "");
        writes(" \n ", "");
        writes("from 0 class 01 when\nholds  1 end\n\n class 2 when sum plus 1 of 2 cut 0 by 1 over 000 end\n",
                "from 0 class 01 when holds 1 end class 2 when sum plus 1 of 2 cut 0 by 1 over 000 end");
        theLatestRulesText();
        Check.end();
    }

    private static void writes(String text, String due) {
        HazardRules x = new HazardRules();
        Check.feed(x, text);
        Check.due("write(0) before read()", x.write(0), -1);
        x.read();
        isWritten(x, due);
    }

    private static void isWritten(HazardRules x, String due) {
        for (int i = 0; i < due.length(); i++) {
            Check.due("write(" + i + ") of '" + due + "'", x.write(i), due.charAt(i));
        }
        for (int i : new int[] {-1, due.length(), due.length() + 1, 2999, 3000, Integer.MIN_VALUE, Integer.MAX_VALUE}) {
            Check.due("write(" + i + ") of '" + due + "'", x.write(i), -1);
        }
    }

    private static void theLatestRulesText() {
        HazardRules x = Check.load(1, "from  0 class 1 when test 0 is 0 end");
        Check.feed(x, "from 3 from 2");
        isWritten(x, "from 0 class 1 when test 0 is 0 end");
        Check.due("read() of a wrong text", x.read(), -4);
        isWritten(x, "from 0 class 1 when test 0 is 0 end");
        x.test(0, 0);
        x.run(0);
        x.walk(0);
        isWritten(x, "from 0 class 1 when test 0 is 0 end");
        Check.feed(x, " from 7");
        Check.due("read()", x.read(), 0);
        isWritten(x, "from 7");
        Check.due("read()", x.read(), 0);
        isWritten(x, "");
    }
}
