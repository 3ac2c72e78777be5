/** Promises 8 (log), 9 (at), 10 (entries), 11 (seal) and 12 (change), with the term recording. */
public final class LogTest {
    public static void main(String[] args) {
        inputsInTheLog();
        timesInTheLog();
        interruptsInTheLog();
        distances();
        firstEntryCountsFromNoStep();
        entriesInEveryStep();
        longDistances();
        groupsOfAHead();
        groupsOfATime();
        timeIsZeroAtFirst();
        timeThatIsTheSame();
        atEdges();
        seals();
        changes();
        changeAtTheEdges();
        changeLeavesTheSeal();
        Checks.finish(LogTest.class);
    }

    private static void dueInput(int v, int... number) {
        RetoldRun x = Checks.with(0, 7, 0, 0);
        x.input(v);
        x.run(1);
        int[] bytes = new int[number.length + 1];
        bytes[0] = 5;
        System.arraycopy(number, 0, bytes, 1, number.length);
        Checks.dueLog("input " + v, x, bytes);
        Checks.due("entries of input " + v, x.entries(), 1);
        Checks.due("seal of input " + v, x.seal(), Checks.sealOf(bytes));
        Checks.due("told input " + v, Checks.tellNow(x), 1);
        Checks.due("told register of input " + v, x.state(1, 0), v);
    }

    private static void inputsInTheLog() {
        dueInput(0, 0);
        dueInput(-1, 1);
        dueInput(1, 2);
        dueInput(63, 126);
        dueInput(-64, 127);
        dueInput(64, 128, 1);
        dueInput(-65, 129, 1);
        dueInput(8191, 254, 127);
        dueInput(-8192, 255, 127);
        dueInput(8192, 128, 128, 1);
        dueInput((1 << 20) - 1, 254, 255, 127);
        dueInput(-(1 << 20), 255, 255, 127);
        dueInput(1 << 20, 128, 128, 128, 1);
        dueInput(1 << 27, 128, 128, 128, 128, 1);
        dueInput((1 << 27) - 1, 254, 255, 255, 127);
        dueInput(-(1 << 27), 255, 255, 255, 127);
        dueInput(-(1 << 27) - 1, 129, 128, 128, 128, 1);
        dueInput(1 << 30, 128, 128, 128, 128, 8);
        dueInput(Integer.MIN_VALUE + 1, 253, 255, 255, 255, 15);
        dueInput(Integer.MAX_VALUE, 254, 255, 255, 255, 15);
        dueInput(Integer.MIN_VALUE, 255, 255, 255, 255, 15);
        RetoldRun x = Checks.with(0, 7, 0, 0, 7, 0, 0);
        x.run(2);
        Checks.dueLog("an IN that finds none", x);
        Checks.due("makes no entry", x.entries(), 0);
    }

    private static void timesInTheLog() {
        RetoldRun x = Checks.with(0, 8, 0, 0, 5, 0, 0);
        x.run(2);
        Checks.dueLog("a clock of 0", x);
        x.pass(127);
        x.run(2);
        Checks.dueLog("127", x, 14, 127);
        x.run(2);
        Checks.dueLog("the same clock", x, 14, 127);
        x.pass(100);
        x.pass(28);
        x.run(2);
        Checks.dueLog("128 more, not 255", x, 14, 127, 18, 128, 1);
        x.pass(1000000);
        x.run(2);
        Checks.dueLog("a million more", x, 14, 127, 18, 128, 1, 10, 192, 132, 61);
        Checks.due("entries", x.entries(), 3);
        Checks.due("register", x.state(0, 0), 1000255);
        Checks.due("told", Checks.tellNow(x), 1);
        Checks.due("told register", x.state(1, 0), 1000255);
    }

    private static void interruptsInTheLog() {
        RetoldRun x = new RetoldRun(0);
        x.add(5, 0, 0);
        for (int i = 1; i < 17; i++) {
            x.add(11, 0, 0);
        }
        x.run(31);
        x.request();
        x.run(1);
        Checks.dueLog("an interrupt in step 32", x, 131, 1);
        x.run(1);
        x.request();
        x.run(1);
        Checks.dueLog("and in step 34", x, 131, 1, 11);
        Checks.due("entries", x.entries(), 2);
    }

    private static void distances() {
        RetoldRun x = Checks.with(0, 0, 3, 1, 7, 0, 0, 8, 1, 0, 7, 2, 0, 5, 0, 0);
        x.input(10);
        x.pass(3);
        x.input(-10);
        x.run(5);
        Checks.dueLog("steps 2, 3 and 4", x, 9, 20, 6, 3, 5, 19);
        x.pass(1);
        x.run(5);
        Checks.dueLog("step 8", x, 9, 20, 6, 3, 5, 19, 18, 1);
        Checks.due("entries", x.entries(), 4);
    }

    private static void firstEntryCountsFromNoStep() {
        RetoldRun x = Checks.with(0, 7, 0, 0, 7, 0, 0, 7, 0, 0);
        x.input(0);
        x.run(1);
        Checks.dueLog("in the first step: 1 less 0", x, 5, 0);
        RetoldRun y = Checks.with(0, 7, 0, 0, 7, 0, 0, 7, 0, 0);
        y.run(1);
        y.input(0);
        y.run(1);
        Checks.dueLog("in the second step: 2 less 0", y, 9, 0);
        y.input(0);
        y.run(1);
        Checks.dueLog("and then 3 less 2", y, 9, 0, 5, 0);
    }

    /** One of each kind, in steps that follow each other. */
    private static void entriesInEveryStep() {
        RetoldRun x = Checks.with(0, 7, 0, 0, 8, 1, 0);
        for (int i = 2; i < 17; i++) {
            x.add(7, 2, 0);
        }
        x.input(-1);
        x.input(1);
        x.pass(1);
        x.run(2);
        x.request();
        x.run(2);
        Checks.dueLog("IN, TIME, interrupt, IN", x, 5, 1, 6, 1, 7, 5, 2);
        Checks.due("four entries", x.entries(), 4);
        Checks.due("told", Checks.tellNow(x), 1);
    }

    private static RetoldRun steppedTo(int step) {
        RetoldRun x = Checks.with(0, 7, 0, 0, 5, 0, 0);
        for (int rest = step - 1; rest > 0; rest -= 100) {
            x.run(Math.min(rest, 100));
        }
        x.input(0);
        x.run(2);
        return x;
    }

    private static void groupsOfAHead() {
        Checks.dueLog("4 * 31 + 1", steppedTo(31), 125, 0);
        Checks.dueLog("4 * 33 + 1", steppedTo(33), 133, 1, 0);
        Checks.dueLog("4 * 4095 + 1", steppedTo(4095), 253, 127, 0);
        Checks.dueLog("4 * 4097 + 1", steppedTo(4097), 133, 128, 1, 0);
        Checks.due("told", Checks.tellNow(steppedTo(4097)), 1);
        Checks.dueLog("4 * 31 + 3", interruptedIn(31), 127);
        Checks.dueLog("4 * 32 + 3", interruptedIn(32), 131, 1);
        Checks.dueLog("4 * 4095 + 3", interruptedIn(4095), 255, 127);
        Checks.dueLog("4 * 4096 + 3", interruptedIn(4096), 131, 128, 1);
        Checks.due("told", Checks.tellNow(interruptedIn(4096)), 1);
    }

    private static RetoldRun interruptedIn(int step) {
        RetoldRun x = new RetoldRun(0);
        for (int i = 0; i < 17; i++) {
            x.add(5, 0, 0);
        }
        for (int rest = step - 1; rest > 0; rest -= 100) {
            x.run(Math.min(rest, 100));
        }
        x.request();
        x.run(1);
        return x;
    }

    private static void dueTime(long clock, int... number) {
        RetoldRun x = Checks.with(0, 8, 0, 0);
        for (long rest = clock; rest > 0; rest -= 1000000) {
            x.pass((int) Math.min(rest, 1000000));
        }
        x.run(1);
        int[] bytes = new int[number.length + 1];
        bytes[0] = 6;
        System.arraycopy(number, 0, bytes, 1, number.length);
        Checks.dueLog("clock " + clock, x, bytes);
        Checks.due("told clock " + clock, Checks.tellNow(x), 1);
        Checks.due("told register of clock " + clock, x.state(1, 0), clock);
    }

    private static void groupsOfATime() {
        dueTime(1, 1);
        dueTime(127, 127);
        dueTime(128, 128, 1);
        dueTime(16383, 255, 127);
        dueTime(16384, 128, 128, 1);
        dueTime(2097151, 255, 255, 127);
        dueTime(2097152, 128, 128, 128, 1);
        dueTime(268435455, 255, 255, 255, 127);
        dueTime(268435456, 128, 128, 128, 128, 1);
    }

    private static void timeIsZeroAtFirst() {
        RetoldRun x = Checks.with(0, 8, 0, 0, 8, 1, 0);
        x.run(1);
        Checks.dueLog("0 is what it was", x);
        Checks.due("no entry", x.entries(), 0);
        x.pass(1);
        x.run(1);
        Checks.dueLog("1 is not", x, 10, 1);
        Checks.due("one entry", x.entries(), 1);
        x.clear();
        x.add(8, 0, 0);
        x.pass(1);
        x.run(1);
        Checks.dueLog("after clear it was 0 again, not 1", x, 6, 1);
    }

    private static void timeThatIsTheSame() {
        RetoldRun x = Checks.with(0, 8, 0, 0, 0, 0, 0, 8, 0, 0, 8, 0, 0);
        x.pass(5);
        x.run(3);
        Checks.dueLog("the same as the TIME before, not as the register", x, 6, 5);
        x.pass(1);
        x.run(1);
        Checks.dueLog("one more than the TIME before", x, 6, 5, 14, 1);
        Checks.due("the clock itself", x.state(0, 0), 6);
    }

    private static void changeAtTheEdges() {
        RetoldRun x = Checks.with(0, 7, 0, 0);
        x.input(7);
        x.run(1);
        Checks.due("below the first byte", x.change(-1, 1), false);
        Checks.due("the first byte", x.change(0, 1), true);
        Checks.due("the last byte", x.change(1, 2), true);
        Checks.due("behind the last byte", x.change(2, 3), false);
        Checks.dueLog("two bytes", x, 1, 2);
        Checks.due("below 0", x.change(0, -1), false);
        Checks.due("0", x.change(0, 0), true);
        Checks.due("255", x.change(1, 255), true);
        Checks.due("above 255", x.change(1, 256), false);
        Checks.dueLog("lowest and highest", x, 0, 255);
        Checks.due("to what it is", x.change(1, 255), true);
        Checks.due("the seal stays", x.seal(), Checks.sealOf(5, 14));
        Checks.due("the seal of the bytes as they are", x.tell(Checks.sealOf(0, 255), 2), -2);
    }

    private static void longDistances() {
        RetoldRun x = Checks.with(0, 7, 0, 0, 5, 0, 0);
        for (int i = 0; i < 50; i++) {
            x.run(100);
        }
        x.input(0);
        x.run(2);
        Checks.dueLog("step 5001", x, 165, 156, 1, 0);
        Checks.due("told", Checks.tellNow(x), 1);
        RetoldRun y = Checks.with(0, 7, 0, 0, 5, 0, 0);
        y.run(30);
        y.input(0);
        y.run(2);
        Checks.dueLog("step 31", y, 125, 0);
        y.run(32);
        y.input(0);
        y.run(1);
        Checks.dueLog("34 steps later", y, 125, 0, 137, 1, 0);
    }

    private static void atEdges() {
        RetoldRun x = Checks.with(0, 7, 0, 0);
        Checks.due("no byte at first", x.at(0), -1);
        x.input(7);
        x.run(1);
        for (int i : new int[] {-1, 2, 299, 300, 301, Integer.MAX_VALUE, Integer.MIN_VALUE}) {
            Checks.due("at(" + i + ")", x.at(i), -1);
        }
        Checks.due("at(1)", x.at(1), 14);
    }

    private static void seals() {
        RetoldRun x = Checks.with(0, 7, 0, 0, 5, 0, 0);
        Checks.due("seal of nothing", x.seal(), 1);
        x.input(500);
        x.input(-1);
        x.run(1);
        Checks.due("seal of one entry", x.seal(), Checks.sealOf(5, 232, 7));
        x.run(2);
        Checks.due("seal of two entries", x.seal(), Checks.sealOf(5, 232, 7, 9, 1));
        Checks.due("a seal by hand", Checks.sealOf(0), 16779667);
    }

    private static void changes() {
        RetoldRun x = Checks.with(0, 7, 0, 0, 5, 0, 0);
        Checks.due("no byte to change", x.change(0, 0), false);
        x.input(7);
        x.run(1);
        for (int i : new int[] {-1, 2, 300, Integer.MAX_VALUE, Integer.MIN_VALUE}) {
            Checks.due("change(" + i + ", 0)", x.change(i, 0), false);
        }
        for (int v : new int[] {-1, 256, Integer.MAX_VALUE, Integer.MIN_VALUE}) {
            Checks.due("change(0, " + v + ")", x.change(0, v), false);
        }
        Checks.dueLog("nothing has changed", x, 5, 14);
        Checks.due("to 255", x.change(0, 255), true);
        Checks.due("to 0", x.change(1, 0), true);
        Checks.dueLog("changed", x, 255, 0);
        Checks.due("entries that were made", x.entries(), 1);
        Checks.due("the run is as it was", x.state(0, 0), 7);
        x.clear();
        Checks.due("no byte after clear", x.change(0, 0), false);
    }

    private static void changeLeavesTheSeal() {
        RetoldRun x = Checks.with(0, 7, 0, 0, 5, 0, 0);
        x.input(7);
        x.input(8);
        x.run(1);
        x.change(1, 99);
        Checks.due("the seal that was made", x.seal(), Checks.sealOf(5, 14));
        x.run(2);
        Checks.dueLog("the change stays when the run goes on", x, 5, 99, 9, 16);
        Checks.due("the seal goes on from what was made", x.seal(), Checks.sealOf(5, 14, 9, 16));
        Checks.due("not the log that was sealed", x.tell(x.seal(), 4), -1);
        x.change(1, 14);
        Checks.due("changed back", x.tell(x.seal(), 4), 1);
    }
}
