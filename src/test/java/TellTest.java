/** Promise 13: tell, with the term telling again. */
public final class TellTest {
    public static void main(String[] args) {
        toldAlike();
        refusedSeals();
        refusedChangesNothing();
        unreadable();
        readableAgain();
        sealComesFirst();
        otherInputs();
        droppedBits();
        longHeads();
        stepsDoNotWrap();
        entryOfNoUse();
        wrongKinds();
        timesAddUp();
        interruptsAsTheLogHasThem();
        interruptsOfNoUse();
        toldEndsEarlier();
        toldEndsLater();
        cellsCount();
        cellsAlone();
        tellingLeavesTheRun();
        Checks.finish(TellTest.class);
    }

    private static final int[] LOOP = {7, 0, 0, 5, 0, 0};

    private static void dueTold(String when, RetoldRun x, int answer, int what, int value) {
        Checks.due(when, Checks.tellNow(x), answer);
        Checks.due(when + ": state 1 " + what, x.state(1, what), value);
    }

    private static RetoldRun looped(int steps, int... inputs) {
        RetoldRun x = Checks.with(0, LOOP);
        for (int v : inputs) {
            x.input(v);
        }
        x.run(steps);
        return x;
    }

    private static void toldAlike() {
        RetoldRun x = new RetoldRun(-5);
        int[] body = {7, 0, 0, 8, 1, 0, 9, 2, 0, 1, 3, 2, 4, 0, 3, 3, 1, 3, 10, 1, 0, 10, 3, 0};
        for (int i = 0; i < body.length; i += 3) {
            x.add(body[i], body[i + 1], body[i + 2]);
        }
        for (int i = 8; i < 16; i++) {
            x.add(5, 0, 0);
        }
        x.add(8, 2, 0);
        x.add(7, 3, 0);
        x.add(11, 0, 0);
        for (int i = 0; i < 12; i++) {
            x.input(i * i * -777);
            x.pass(1 + i * 40000);
            if (i % 2 == 0) {
                x.request();
            }
            x.input(i << 20);
            x.run(1 + i);
            Checks.due("told " + i, x.tell(x.seal(), x.log()), 1);
            for (int what = 0; what <= 9; what++) {
                Checks.due("state " + what, x.state(1, what), x.state(0, what));
            }
            for (int c = 0; c < 32; c++) {
                Checks.due("cell " + c, x.cell(1, c), x.cell(0, c));
            }
        }
        Checks.due("there was something to tell", x.entries() > 20, true);
        int steps = x.state(0, 9);
        x.run(1);
        Checks.due("what was told stays where it was", x.state(1, 9), steps);
    }

    private static void refusedSeals() {
        RetoldRun x = looped(2, 7);
        int s = Checks.sealOf(5, 14);
        Checks.due("right", x.tell(s, 2), 1);
        Checks.due("another seal", x.tell(s + 1, 2), -1);
        Checks.due("the seal of nothing", x.tell(1, 2), -1);
        for (int n : new int[] {0, 1, 3, -2, Integer.MAX_VALUE, Integer.MIN_VALUE}) {
            Checks.due("the right seal for " + n, x.tell(s, n), -1);
        }
        x.change(1, 15);
        Checks.due("changed", x.tell(s, 2), -1);
        Checks.due("the seal of the bytes as they are", x.tell(Checks.sealOf(5, 15), 2), 0);
        Checks.due("the seal that was made is no help", x.tell(x.seal(), 2), -1);
    }

    private static void refusedChangesNothing() {
        RetoldRun x = looped(2, 7);
        Checks.due("told", Checks.tellNow(x), 1);
        x.input(9);
        x.run(2);
        Checks.due("refused by the seal", x.tell(0, 4), -1);
        Checks.due("told stays", x.state(1, 9), 2);
        Checks.due("told register stays", x.state(1, 0), 7);
        x.change(0, 4);
        Checks.due("refused, not readable", Checks.tellNow(x), -2);
        Checks.due("told stays", x.state(1, 9), 2);
        Checks.due("told register stays", x.state(1, 0), 7);
        Checks.due("the run stays", x.state(0, 9), 4);
    }

    private static void dueUnreadable(String why, int... bytes) {
        RetoldRun x = looped(2, Integer.MIN_VALUE);
        Checks.due("six bytes", x.log(), 6);
        int[] whole = {7, 7, 7, 7, 7, 7};
        System.arraycopy(bytes, 0, whole, 6 - bytes.length, bytes.length);
        Checks.write(x, whole);
        Checks.due(why, Checks.tellNow(x), -2);
        Checks.due(why + ": nothing told", x.state(1, 9), 0);
    }

    private static void unreadable() {
        dueUnreadable("the last number is not whole", 135);
        dueUnreadable("the value is not whole", 5, 128);
        dueUnreadable("the value is missing after IN", 5);
        dueUnreadable("the value is missing after TIME", 6);
        dueUnreadable("kind 0", 4);
        dueUnreadable("kind 0 in the middle", 4, 7, 7);
        dueUnreadable("all is 0", 0);
        dueUnreadable("d is 0 for IN", 1, 0);
        dueUnreadable("d is 0 for TIME", 2, 0);
        dueUnreadable("d is 0 for an interrupt", 3);
        dueUnreadable("d is 0 in the first entry", 3, 7, 7, 7, 7, 7);
        dueUnreadable("a number of six bytes", 135, 128, 128, 128, 128, 0);
        dueUnreadable("a value of more than 5 bytes", 5, 255, 255, 255, 255, 143);
        dueUnreadable("d is 0 once its bits are dropped", 131, 128, 128, 128, 112);
        RetoldRun x = looped(2, Integer.MIN_VALUE);
        Checks.write(x, 7, 7, 7, 7, 7, 7);
        Checks.due("six interrupts can be read", Checks.tellNow(x), 0);
        Checks.write(x, 7, 135, 128, 128, 128, 0);
        Checks.due("a number of five bytes can be read", Checks.tellNow(x), 0);
        Checks.write(x, 7, 7, 7, 7, 5, 0);
        Checks.due("an entry with its value can be read", Checks.tellNow(x), 0);
    }

    private static void readableAgain() {
        RetoldRun x = looped(2, 7);
        x.change(0, 4);
        Checks.due("not readable", Checks.tellNow(x), -2);
        x.change(0, 5);
        dueTold("readable again", x, 1, 0, 7);
    }

    private static void sealComesFirst() {
        RetoldRun x = looped(2, 7);
        x.change(0, 0);
        Checks.due("neither sealed nor readable", x.tell(x.seal(), 2), -1);
        Checks.due("sealed, not readable", Checks.tellNow(x), -2);
        Checks.due("not readable, of another length", x.tell(Checks.sealOf(0, 14), 1), -1);
    }

    private static void otherInputs() {
        RetoldRun x = looped(4, 7, 9);
        Checks.dueLog("two inputs", x, 5, 14, 9, 18);
        x.change(3, 19);
        dueTold("another second input", x, 0, 0, -10);
        Checks.due("the run has its own", x.state(0, 0), 9);
        x.change(3, 18);
        dueTold("as it was", x, 1, 0, 9);
        x.change(1, 12);
        dueTold("another first input shows in the trace alone", x, 0, 0, 9);
        Checks.due("the trace is another", x.state(1, 6) != x.state(0, 6), true);
    }

    private static void droppedBits() {
        RetoldRun x = looped(2, Integer.MIN_VALUE);
        Checks.dueLog("lowest", x, 5, 255, 255, 255, 255, 15);
        x.change(5, 127);
        dueTold("bits beyond the 32nd are dropped", x, 1, 0, Integer.MIN_VALUE);
        x.change(5, 7);
        dueTold("the 32nd bit is not", x, 0, 0, -(1 << 30));
        Checks.write(x, 5, 142, 128, 128, 128, 0);
        dueTold("a number longer than need be", x, 0, 0, 7);
    }

    private static void longHeads() {
        RetoldRun x = looped(2, Integer.MIN_VALUE);
        Checks.write(x, 133, 128, 128, 128, 0, 15);
        dueTold("a head of five bytes", x, 0, 0, -8);
        Checks.write(x, 133, 128, 128, 128, 112, 15);
        dueTold("whose bits beyond the 32nd are dropped", x, 0, 0, -8);
        Checks.write(x, 133, 128, 128, 128, 8, 15);
        dueTold("or a step that never comes", x, 0, 0, 0);
    }

    private static void stepsDoNotWrap() {
        RetoldRun x = looped(8, Integer.MIN_VALUE, Integer.MIN_VALUE, Integer.MIN_VALUE, 70000);
        Checks.due("22 bytes", x.log(), 22);
        for (int i = 0; i < 20; i += 5) {
            x.change(i, 255);
            x.change(i + 1, 255);
            x.change(i + 2, 255);
            x.change(i + 3, 255);
            x.change(i + 4, 15);
        }
        x.change(20, 21 + 8 * 3);
        x.change(21, 22);
        dueTold("no step is so far", x, 0, 0, 0);
        Checks.due("all inputs are 0 there", x.state(1, 6), looped(8).state(0, 6));
    }

    private static void entryOfNoUse() {
        RetoldRun x = looped(2, 0);
        Checks.dueLog("an input of 0", x, 5, 0);
        x.change(0, 9);
        dueTold("its step has no use for it, and IN gives 0 anyway", x, 1, 0, 0);
        x.change(1, 8);
        dueTold("still of no use", x, 1, 0, 0);
        x.change(0, 13);
        dueTold("beyond the last step", x, 1, 0, 0);
        RetoldRun y = looped(4, 7, 9);
        y.change(0, 9);
        y.change(2, 5);
        dueTold("the first of no use, the second in its place", y, 0, 0, 9);
        y.change(2, 9);
        dueTold("the second too late", y, 0, 0, 0);
    }

    private static void wrongKinds() {
        RetoldRun x = looped(2, 7);
        x.change(0, 6);
        dueTold("a time for an IN", x, 0, 0, 0);
        RetoldRun y = Checks.with(0, 8, 0, 0, 8, 1, 0);
        y.pass(7);
        y.run(2);
        Checks.dueLog("a time", y, 6, 7);
        y.change(0, 5);
        dueTold("an input for a TIME", y, 0, 0, 0);
        y.change(0, 10);
        dueTold("a time for the second TIME", y, 0, 0, 0);
        Checks.due("the second TIME", y.state(1, 1), 7);
    }

    private static void timesAddUp() {
        RetoldRun x = Checks.with(0, 8, 0, 0, 0, 3, 5, 8, 1, 0, 8, 2, 0);
        x.pass(10);
        x.run(2);
        x.pass(20);
        x.run(2);
        Checks.dueLog("two times", x, 6, 10, 10, 20);
        dueTold("told", x, 1, 2, 30);
        x.change(1, 11);
        dueTold("one more from the first on", x, 0, 2, 31);
        Checks.due("the first", x.state(1, 0), 11);
        x.change(1, 10);
        x.change(0, 10);
        x.change(2, 6);
        dueTold("a time of no use adds nothing", x, 0, 1, 20);
        Checks.due("TIME before any", x.state(1, 0), 0);
        Checks.due("TIME after", x.state(1, 2), 20);
    }

    private static RetoldRun handled(int handler) {
        RetoldRun x = new RetoldRun(0);
        for (int i = 0; i < 15; i++) {
            x.add(0, 0, i + 1);
        }
        x.add(5, 0, 0);
        x.add(handler, 1, 7);
        x.add(11, 0, 0);
        return x;
    }

    private static void interruptsAsTheLogHasThem() {
        RetoldRun x = handled(0);
        x.run(1);
        x.request();
        x.run(3);
        Checks.dueLog("in step 2", x, 11);
        x.request();
        dueTold("requests are left aside", x, 1, 4, 1);
        Checks.due("the request is still there", x.request(), false);
        x.change(0, 7);
        dueTold("in step 1", x, 0, 4, 1);
        Checks.due("the handler was there", x.state(1, 1), 7);
        x.change(0, 15);
        dueTold("in step 3", x, 0, 4, 17);
        Checks.due("inside", x.state(1, 7), 1);
        x.change(0, 19);
        dueTold("in the last step", x, 0, 4, 16);
        x.change(0, 23);
        dueTold("too late", x, 0, 4, 4);
    }

    private static void interruptsOfNoUse() {
        RetoldRun x = handled(0);
        x.request();
        x.run(3);
        x.request();
        x.run(3);
        Checks.dueLog("in steps 1 and 4", x, 7, 15);
        dueTold("told", x, 1, 4, 0);
        x.change(1, 7);
        dueTold("one while inside does nothing", x, 0, 4, 3);
        Checks.due("not inside", x.state(1, 7), 0);
        RetoldRun y = looped(4, 0);
        Checks.write(y, 7, 11);
        dueTold("no instruction 16", y, 1, 4, 0);
    }

    private static void toldEndsEarlier() {
        RetoldRun x = Checks.with(0, 7, 0, 0, 6, 0, 3, 5, 0, 0, 12, 0, 0);
        x.input(1);
        x.input(2);
        x.input(3);
        x.run(8);
        Checks.due("not ended", x.state(0, 8), 0);
        x.change(3, 0);
        dueTold("ended in the second round", x, 0, 9, 6);
        Checks.due("ended", x.state(1, 8), 1);
        Checks.due("at 4", x.state(1, 4), 4);
    }

    private static void toldEndsLater() {
        RetoldRun x = Checks.with(0, 7, 0, 0, 6, 0, 3, 5, 0, 0, 12, 0, 0);
        x.input(0);
        Checks.due("ended soon", x.run(50), 3);
        dueTold("told", x, 1, 8, 1);
        x.change(1, 2);
        dueTold("as many steps as were done", x, 0, 9, 3);
        Checks.due("not ended", x.state(1, 8), 0);
    }

    private static void cellsCount() {
        RetoldRun x = Checks.with(0, 7, 0, 0, 4, 0, 0, 0, 0, 1);
        x.input(9);
        x.run(3);
        Checks.due("cell", x.cell(0, 9), 9);
        x.change(1, 2 * 41);
        Checks.due("told", Checks.tellNow(x), 0);
        Checks.due("another number in the same cell", x.cell(1, 9), 41);
        x.change(1, 20);
        Checks.due("told anew", Checks.tellNow(x), 0);
        Checks.due("cells are 0 at first again", x.cell(1, 9), 0);
        Checks.due("the other cell", x.cell(1, 10), 10);
    }

    private static int traced(int trace, int place, int register) {
        int h = ((trace ^ place) * 16777619 ^ register) * 16777619;
        for (int i = 0; i < 4; i++) {
            h *= 16777619;
        }
        return h;
    }

    /** The trace is brought together again by a second input, so that a cell alone tells the two runs apart. */
    private static void cellsAlone() {
        int first = 1;
        int second = Integer.MIN_VALUE;
        RetoldRun x = Checks.with(0, 7, 0, 0, 4, 0, 1, 7, 0, 0, 0, 0, 5);
        x.input(first);
        x.input(second);
        x.run(4);
        Checks.due("one byte and five", x.log(), 8);
        int other = 2;
        int mixed = (traced(traced(0, 1, first), 2, first) ^ 3) * 16777619;
        int otherMixed = (traced(traced(0, 1, other), 2, other) ^ 3) * 16777619;
        int otherSecond = second ^ mixed ^ otherMixed;
        int number = otherSecond >= 0 ? 2 * otherSecond : -2 * otherSecond - 1;
        x.change(1, 2 * other);
        for (int i = 0; i < 5; i++) {
            x.change(3 + i, number >>> (7 * i) & 127 | (i < 4 ? 128 : 0));
        }
        Checks.due("a cell alone is not as for the run", Checks.tellNow(x), 0);
        for (int what = 0; what <= 9; what++) {
            Checks.due("all states are alike: " + what, x.state(1, what), x.state(0, what));
        }
        Checks.due("the cell of the run", x.cell(0, 0), first);
        Checks.due("the cell as told", x.cell(1, 0), other);
    }

    private static void tellingLeavesTheRun() {
        RetoldRun x = looped(2, 7);
        x.input(8);
        x.input(9);
        x.pass(5);
        x.request();
        Checks.due("told", Checks.tellNow(x), 1);
        Checks.due("told twice", Checks.tellNow(x), 1);
        Checks.dueLog("the log", x, 5, 14);
        Checks.due("entries", x.entries(), 1);
        Checks.due("seal", x.seal(), Checks.sealOf(5, 14));
        Checks.due("steps", x.state(0, 9), 2);
        Checks.due("inputs", x.input(10), 3);
        Checks.due("request", x.request(), false);
        x.run(1);
        Checks.due("the run goes on", x.state(0, 0), 8);
        Checks.due("told further", Checks.tellNow(x), 1);
        Checks.due("told steps", x.state(1, 9), 3);
    }
}
