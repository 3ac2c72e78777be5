/** Numbers of 32 bits at their edges: the clock that wraps, and what is written of it. */
public final class WrapTest {
    private static final int MILLION = 1000000;

    public static void main(String[] args) {
        highestWithin512Calls();
        clockBeyond31Bits();
        clockBeyond32Bits();
        wrappedToZero();
        wrappedBelowTheTimeBefore();
        toldClockWraps();
        Checks.finish(WrapTest.class);
    }

    /** The clock is brought to this many, 32 bits without sign. */
    private static RetoldRun passed(long clock) {
        RetoldRun x = Checks.with(0, 8, 0, 0, 5, 0, 0);
        passMore(x, clock);
        return x;
    }

    private static void passMore(RetoldRun x, long n) {
        boolean all = true;
        for (long rest = n; rest > 0; rest -= MILLION) {
            all &= x.pass((int) Math.min(rest, MILLION));
        }
        Checks.due("time passes by " + n, all, true);
    }

    private static void dueTime(String when, RetoldRun x, int clock) {
        x.run(2);
        Checks.due(when, x.state(0, 0), clock);
        Checks.due(when + ": told", Checks.tellNow(x), 1);
        Checks.due(when + ": told clock", x.state(1, 0), clock);
    }

    private static void highestWithin512Calls() {
        RetoldRun x = passed((1 << 28) - 1);
        dueTime("28 bits", x, 268435455);
        Checks.dueLog("four bytes", x, 6, 255, 255, 255, 127);
        RetoldRun y = passed(1 << 28);
        dueTime("29 bits", y, 268435456);
        Checks.dueLog("five bytes", y, 6, 128, 128, 128, 128, 1);
        RetoldRun z = passed(480L * MILLION);
        dueTime("480 calls of pass", z, 480 * MILLION);
    }

    // Calls of pass alone bring the clock to 31 bits only beyond the 512 calls that the document promises: it is
    // told here all the same that the clock wraps, since the document says so and this class keeps it.

    private static void clockBeyond31Bits() {
        RetoldRun x = passed(Integer.MAX_VALUE);
        dueTime("the highest int", x, Integer.MAX_VALUE);
        Checks.dueLog("31 bits", x, 6, 255, 255, 255, 255, 7);
        passMore(x, 1);
        dueTime("the lowest int", x, Integer.MIN_VALUE);
        Checks.dueLog("one more", x, 6, 255, 255, 255, 255, 7, 10, 1);
        RetoldRun y = passed(1L << 31);
        dueTime("the lowest int at once", y, Integer.MIN_VALUE);
        Checks.dueLog("32 bits without sign", y, 6, 128, 128, 128, 128, 8);
    }

    private static void clockBeyond32Bits() {
        RetoldRun x = passed((1L << 32) - 1);
        dueTime("all bits on", x, -1);
        Checks.dueLog("without sign", x, 6, 255, 255, 255, 255, 15);
        passMore(x, 1);
        dueTime("wrapped", x, 0);
        Checks.dueLog("by one more", x, 6, 255, 255, 255, 255, 15, 10, 1);
    }

    private static void wrappedToZero() {
        RetoldRun x = passed(1L << 32);
        dueTime("wrapped before any TIME", x, 0);
        Checks.dueLog("is what it was at first", x);
        Checks.due("no entry", x.entries(), 0);
    }

    private static void wrappedBelowTheTimeBefore() {
        RetoldRun x = passed(MILLION);
        dueTime("a million", x, MILLION);
        passMore(x, (1L << 32) - MILLION + 1);
        dueTime("wrapped to 1", x, 1);
        Checks.dueLog("2^32 - 999999", x, 6, 192, 132, 61, 10, 193, 251, 194, 255, 15);
    }

    private static void dueTold(long first, long second, int then, int last) {
        RetoldRun x = Checks.with(0, 8, 0, 0, 8, 1, 0, 8, 2, 0, 7, 3, 0, 7, 3, 0);
        x.input(Integer.MIN_VALUE);
        x.input(Integer.MIN_VALUE);
        x.run(5);
        Checks.due("twelve bytes", x.log(), 12);
        x.change(0, 6);
        x.change(6, 6);
        for (int i = 0; i < 5; i++) {
            int more = i < 4 ? 128 : 0;
            x.change(1 + i, (int) (first >>> 7 * i & 127) | more);
            x.change(7 + i, (int) (second >>> 7 * i & 127) | more);
        }
        Checks.due("told " + first + " and " + second, Checks.tellNow(x), 0);
        Checks.due("the first TIME", x.state(1, 0), then);
        Checks.due("the second TIME", x.state(1, 1), last);
        Checks.due("the third TIME, without an entry", x.state(1, 2), last);
        Checks.due("IN without an entry", x.state(1, 3), 0);
    }

    /** Within the 512 calls: a log from outside tells of a clock that wraps. */
    private static void toldClockWraps() {
        dueTold(0x7FFFFFFFL, 1, Integer.MAX_VALUE, Integer.MIN_VALUE);
        dueTold(0x80000000L, 0x80000000L, Integer.MIN_VALUE, 0);
        dueTold(0xFFFFFFFFL, 1, -1, 0);
        dueTold(5, 0xFFFFFFFFL, 5, 4);
        dueTold(0xFFFFFFFFL, 0xFFFFFFFFL, -1, -2);
        dueTold(0, 7, 0, 7);
    }
}
