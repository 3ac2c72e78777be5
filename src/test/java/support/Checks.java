/** Counts answers that are not as due, and ends the test accordingly. */
final class Checks {
    private static int asked = 0;
    private static int wrong = 0;

    private Checks() {
    }

    static void due(String what, long got, long want) {
        asked++;
        if (got != want) {
            wrong++;
            System.out.println(what + " answered " + got + ", due is " + want);
        }
    }

    static void due(String what, boolean got, boolean want) {
        due(what, got ? 1 : 0, want ? 1 : 0);
    }

    /** The log byte by byte, and that there is none after it. */
    static void dueLog(String what, RetoldRun x, int... bytes) {
        due(what + ": log", x.log(), bytes.length);
        for (int i = 0; i < bytes.length; i++) {
            due(what + ": at " + i, x.at(i), bytes[i]);
        }
        due(what + ": at the end", x.at(bytes.length), -1);
    }

    /** The seal by the document's words, apart from the class under test. */
    static int sealOf(int... bytes) {
        int h = 1;
        for (int x : bytes) {
            h = (h ^ x) * 16777619;
            h = h ^ (h >>> 13);
        }
        return h;
    }

    static int[] bytesOf(RetoldRun x) {
        int[] bytes = new int[x.log()];
        for (int i = 0; i < bytes.length; i++) {
            bytes[i] = x.at(i);
        }
        return bytes;
    }

    /** All that can be asked of the object while nothing comes to it: some 90 calls and one for each byte. */
    static int[] seenOf(RetoldRun x) {
        int[] bytes = bytesOf(x);
        int[] seen = new int[86 + bytes.length];
        int n = 0;
        for (int which = 0; which < 2; which++) {
            for (int what = 0; what < 10; what++) {
                seen[n++] = x.state(which, what);
            }
            for (int i = 0; i < 32; i++) {
                seen[n++] = x.cell(which, i);
            }
        }
        seen[n++] = x.entries();
        seen[n++] = x.seal();
        System.arraycopy(bytes, 0, seen, n, bytes.length);
        return seen;
    }

    static void dueSame(String what, int[] got, int[] want) {
        due(what + ": how many", got.length, want.length);
        for (int i = 0; i < got.length && i < want.length; i++) {
            due(what + ": number " + i, got[i], want[i]);
        }
    }

    /** The trace after one step more, by the document's words. */
    static int traced(int trace, int place, int r0, int r1, int r2, int r3, int output) {
        int h = trace;
        for (int x : new int[] {place, r0, r1, r2, r3, output}) {
            h = (h ^ x) * 16777619;
        }
        return h;
    }

    /** Tells with the seal and the length that the log has now. */
    static int tellNow(RetoldRun x) {
        int[] bytes = bytesOf(x);
        return x.tell(sealOf(bytes), bytes.length);
    }

    static void write(RetoldRun x, int... bytes) {
        for (int i = 0; i < bytes.length; i++) {
            due("change(" + i + ", " + bytes[i] + ")", x.change(i, bytes[i]), true);
        }
    }

    /** Instructions as triples of operation, a and b. */
    static RetoldRun with(int seed, int... triples) {
        RetoldRun x = new RetoldRun(seed);
        for (int i = 0; i < triples.length; i += 3) {
            due("add " + i / 3, x.add(triples[i], triples[i + 1], triples[i + 2]), i / 3);
        }
        return x;
    }

    static void finish(Class<?> test) {
        System.out.println(test.getSimpleName() + ": " + asked + " answers, " + wrong + " not as due");
        if (wrong != 0 || asked == 0) {
            System.exit(1);
        }
    }
}
