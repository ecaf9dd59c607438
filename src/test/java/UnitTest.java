/** Promise 2: one more byte of the text, 0 .. 255. */
public final class UnitTest {
    public static void main(String[] args) {
        bytesAreTaken();
        othersAreRefused();
        refusedBytesAreNotInTheText();
        bytesWaitForRead();
        Check.end();
    }

    private static void bytesAreTaken() {
        HazardRules x = new HazardRules();
        for (int u = 0; u < 256; u++) {
            Check.due("unit(" + u + ")", x.unit(u), true);
        }
    }

    private static void othersAreRefused() {
        HazardRules x = new HazardRules();
        int[] wrong = {-1, 256, 257, 256 + 'f', -256 + 'f', Integer.MIN_VALUE, Integer.MAX_VALUE};
        for (int u : wrong) {
            Check.due("unit(" + u + ")", x.unit(u), false);
        }
        Check.due("read() behind refused bytes", x.read(), 0);
    }

    private static void refusedBytesAreNotInTheText() {
        HazardRules x = new HazardRules();
        Check.feed(x, "fr");
        Check.due("unit(256)", x.unit(256), false);
        Check.due("unit(-1)", x.unit(-1), false);
        Check.feed(x, "om 4");
        Check.due("read()", x.read(), 0);
        Check.due("edition(4)", x.edition(4), 0);
        Check.due("edition(3)", x.edition(3), -1);
    }

    private static void bytesWaitForRead() {
        HazardRules x = Check.load(0, "from 4");
        Check.feed(x, "from 2");
        Check.due("edition(3) before read()", x.edition(3), -1);
        Check.due("write(5) before read()", x.write(5), '4');
        Check.due("read()", x.read(), 0);
        Check.due("edition(3)", x.edition(3), 0);
        Check.due("write(5)", x.write(5), '2');
    }
}
