/** Promise 16: sealed. */
public final class SealedTest {
    public static void main(String[] args) {
        RetoldRun x = new RetoldRun(0);
        known(x);
        refused(x);
        edges(x);
        chained(x);
        Checks.finish(SealedTest.class);
    }

    private static void known(RetoldRun x) {
        int word = 0x81FF037E;
        Checks.due("one byte", x.sealed(1, word, 1), Checks.sealOf(0x7E));
        Checks.due("two bytes", x.sealed(1, word, 2), Checks.sealOf(0x03, 0x7E));
        Checks.due("three bytes", x.sealed(1, word, 3), Checks.sealOf(0xFF, 0x03, 0x7E));
        Checks.due("four bytes", x.sealed(1, word, 4), Checks.sealOf(0x81, 0xFF, 0x03, 0x7E));
        Checks.due("four bytes of -1", x.sealed(1, -1, 4), Checks.sealOf(255, 255, 255, 255));
        Checks.due("0 after 0", x.sealed(0, 0, 4), 0);
        Checks.due("after a seal below 0", x.sealed(-1, 0, 1), -16777619 ^ (-16777619 >>> 13));
    }

    private static void refused(RetoldRun x) {
        for (int n : new int[] {0, 5, -1, 32, Integer.MAX_VALUE, Integer.MIN_VALUE}) {
            Checks.due("n is " + n, x.sealed(1, 77, n), 0);
        }
    }

    private static int sealAfter(int h, int word, int n) {
        int seal = h;
        for (int i = n - 1; i >= 0; i--) {
            seal = (seal ^ (word >>> 8 * i & 255)) * 16777619;
            seal = seal ^ seal >>> 13;
        }
        return seal;
    }

    private static void edges(RetoldRun x) {
        for (int h : new int[] {0, 1, -1, 12345, Integer.MIN_VALUE, Integer.MAX_VALUE}) {
            for (int word : new int[] {0, 1, -1, 0x80000000, 0x01020304, Integer.MAX_VALUE}) {
                Checks.due("no byte", x.sealed(h, word, 0), 0);
                for (int n = 1; n <= 4; n++) {
                    Checks.due(n + " bytes of " + word + " after " + h, x.sealed(h, word, n), sealAfter(h, word, n));
                }
                Checks.due("five bytes", x.sealed(h, word, 5), 0);
            }
        }
        Checks.due("higher bytes are left aside", x.sealed(1, 0x12345678, 2), x.sealed(1, 0x5678, 2));
        Checks.due("0 and one byte of 0", x.sealed(0, -256, 1), 0);
    }

    private static void chained(RetoldRun x) {
        x.add(7, 0, 0);
        x.input(70000);
        x.run(1);
        Checks.due("the seal of a log, word by word",
            x.sealed(1, x.at(0) << 24 | x.at(1) << 16 | x.at(2) << 8 | x.at(3), 4), x.seal());
        Checks.due("byte by byte", x.sealed(x.sealed(x.sealed(1, 5, 1), x.at(1) << 8 | x.at(2), 2), x.at(3), 1),
            x.seal());
        Checks.due("a log of four bytes", x.log(), 4);
    }
}
