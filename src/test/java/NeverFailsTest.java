import java.util.Random;

/** No call throws but table(), and that only its own exception, whatever it is asked in whatever state. */
public final class NeverFailsTest {
    private static final int[] INTS = {
        Integer.MIN_VALUE, Integer.MIN_VALUE + 1, -257, -2, -1, 0, 1, 2, 3, 7, 8, 9, 10, 15, 16, 19, 20, 59, 60, 61,
        255, 256, 2999, 3000, Integer.MAX_VALUE - 1, Integer.MAX_VALUE
    };
    private static final long[] LONGS = {
        Long.MIN_VALUE, Integer.MIN_VALUE, -1, 0, 1, 5, 999999, 1000000, 1000001, 999999999, 1000000000,
        Integer.MAX_VALUE, 1L << 32, Long.MAX_VALUE
    };
    private static final String TEXT = "from 0 class 1 when sum plus 3 of 1 cut 2 by 0 over 4 and test 1 not 2 end"
            + " from 5 class 2 when holds 1 end class 1 when test 7 is 9 end class 0 when sum minus 1 of 15 under 3 end";

    public static void main(String[] args) {
        Random random = new Random(1);
        for (int run = 0; run < 400; run++) {
            HazardRules x = new HazardRules();
            int size = run % 4 == 0 ? 0 : run % 4 == 1 ? random.nextInt(TEXT.length()) : TEXT.length();
            Check.feed(x, TEXT.substring(0, size));
            x.read();
            for (int call = 0; call < 250; call++) {
                askAnything(x, random);
            }
        }
        Check.end();
    }

    private static void askAnything(HazardRules x, Random random) {
        int a = INTS[random.nextInt(INTS.length)];
        int b = INTS[random.nextInt(INTS.length)];
        int c = INTS[random.nextInt(INTS.length)];
        long low = LONGS[random.nextInt(LONGS.length)];
        long high = LONGS[random.nextInt(LONGS.length)];
        int choice = random.nextInt(19);
        String failed = "";
        try {
            ask(x, choice, a, b, c, low, high);
        } catch (ArrayIndexOutOfBoundsException e) {
            boolean thrownByCode = e.getStackTrace()[0].getMethodName().equals("table");
            failed = choice == 18 && thrownByCode ? "" : e.toString();
        } catch (RuntimeException e) {
            failed = e.toString();
        }
        Check.due("call " + choice + " of " + a + ", " + b + ", " + c + ", " + low + ", " + high + " " + failed,
                failed.isEmpty(), true);
    }

    private static void ask(HazardRules x, int choice, int a, int b, int c, long low, long high) {
        switch (choice) {
            case 0: x.unit(a); break;
            case 1: x.read(); break;
            case 2: x.edition(low); break;
            case 3: x.part(a, low, high); break;
            case 4: x.test(a, b); break;
            case 5: x.clearParts(); break;
            case 6: x.way(a > 0); break;
            case 7: x.run(low); break;
            case 8: x.walk(low); break;
            case 9: x.cls(a); break;
            case 10: x.mark(a); break;
            case 11: x.moving(); break;
            case 12: x.open(a, b); break;
            case 13: x.missing(a); break;
            case 14: x.explain(a, b, c); break;
            case 15: x.limit(a); break;
            case 16: x.sum(a, b, c); break;
            case 17: x.write(a); break;
            default: x.table(a, b); break;
        }
    }
}
