/** Counts answers that are not as due, and ends the test accordingly. */
final class Checks {
    private static int asked = 0;
    private static int wrong = 0;

    private Checks() {
    }

    static void due(String what, long got, long want) {
        asked++;
        if (got != want) {
            wrong++;
            System.out.println(what + " answered " + got + ", due is " + want);
        }
    }

    static void due(String what, boolean got, boolean want) {
        due(what, got ? 1 : 0, want ? 1 : 0);
    }

    /** The log byte by byte, and that there is none after it. */
    static void dueLog(String what, RetoldRun x, int... bytes) {
        due(what + ": log", x.log(), bytes.length);
        for (int i = 0; i < bytes.length; i++) {
            due(what + ": at " + i, x.at(i), bytes[i]);
        }
        due(what + ": at the end", x.at(bytes.length), -1);
    }

    /** The seal by the document's words, apart from the class under test. */
    static int sealOf(int... bytes) {
        int h = 1;
        for (int x : bytes) {
            h = (h ^ x) * 16777619;
            h = h ^ (h >>> 13);
        }
        return h;
    }

    static int[] bytesOf(RetoldRun x) {
        int[] bytes = new int[x.log()];
        for (int i = 0; i < bytes.length; i++) {
            bytes[i] = x.at(i);
        }
        return bytes;
    }

    /** Tells with the seal and the length that the log has now. */
    static int tellNow(RetoldRun x) {
        int[] bytes = bytesOf(x);
        return x.tell(sealOf(bytes), bytes.length);
    }

    static void write(RetoldRun x, int... bytes) {
        for (int i = 0; i < bytes.length; i++) {
            due("change(" + i + ", " + bytes[i] + ")", x.change(i, bytes[i]), true);
        }
    }

    /** Instructions as triples of operation, a and b. */
    static RetoldRun with(int seed, int... triples) {
        RetoldRun x = new RetoldRun(seed);
        for (int i = 0; i < triples.length; i += 3) {
            due("add " + i / 3, x.add(triples[i], triples[i + 1], triples[i + 2]), i / 3);
        }
        return x;
    }

    static void finish(Class<?> test) {
        System.out.println(test.getSimpleName() + ": " + asked + " answers, " + wrong + " not as due");
        if (wrong != 0 || asked == 0) {
            System.exit(1);
        }
    }
}
