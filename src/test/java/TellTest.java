/** Promise 13: tell, with the term telling again. */
public final class TellTest {
    public static void main(String[] args) {
        toldAlike();
        refusedSeals();
        refusedChangesNothing();
        numberNotWhole();
        numberOfMoreThanFiveBytes();
        bitsBeyondThe32nd();
        entryNotWhole();
        kindOfZero();
        distanceOfZero();
        unreadableAnywhere();
        noLogIsReadable();
        readableAgain();
        sealComesFirst();
        otherInputs();
        droppedBits();
        longHeads();
        stepsDoNotWrap();
        entryOfNoUse();
        wrongKinds();
        inWithoutAnEntry();
        timeWithoutAnEntry();
        timeEntryOfNoUse();
        sameSeed();
        asManyStepsAsInTheRun();
        eachAnswer();
        timesAddUp();
        interruptsAsTheLogHasThem();
        interruptsOfNoUse();
        toldEndsEarlier();
        toldEndsLater();
        cellsCount();
        tellingLeavesTheRun();
        Checks.finish(TellTest.class);
    }

    private static final int[] LOOP = {7, 0, 0, 5, 0, 0};

    private static void dueTold(String when, RetoldRun x, int answer, int what, int value) {
        Checks.due(when, Checks.tellNow(x), answer);
        Checks.due(when + ": state 1 " + what, x.state(1, what), value);
    }

    private static RetoldRun looped(int steps, int... inputs) {
        RetoldRun x = Checks.with(0, LOOP);
        for (int v : inputs) {
            x.input(v);
        }
        x.run(steps);
        return x;
    }

    private static void toldAlike() {
        RetoldRun x = new RetoldRun(-5);
        int[] body = {7, 0, 0, 8, 1, 0, 9, 2, 0, 1, 3, 2, 4, 0, 3, 3, 1, 3, 10, 1, 0, 10, 3, 0};
        for (int i = 0; i < body.length; i += 3) {
            x.add(body[i], body[i + 1], body[i + 2]);
        }
        for (int i = 8; i < 16; i++) {
            x.add(5, 0, 0);
        }
        x.add(8, 2, 0);
        x.add(7, 3, 0);
        x.add(11, 0, 0);
        for (int i = 0; i < 12; i++) {
            x.input(i * i * -777);
            x.pass(1 + i * 40000);
            if (i % 2 == 0) {
                x.request();
            }
            x.input(i << 20);
            x.run(1 + i);
            Checks.due("told " + i, x.tell(x.seal(), x.log()), 1);
            for (int what = 0; what <= 9; what++) {
                Checks.due("state " + what, x.state(1, what), x.state(0, what));
            }
        }
        for (int c = 0; c < 32; c++) {
            Checks.due("cell " + c, x.cell(1, c), x.cell(0, c));
        }
        Checks.due("there was something to tell", x.entries() > 20, true);
        int steps = x.state(0, 9);
        x.run(1);
        Checks.due("what was told stays where it was", x.state(1, 9), steps);
    }

    private static void refusedSeals() {
        RetoldRun x = looped(2, 7);
        int s = Checks.sealOf(5, 14);
        Checks.due("right", x.tell(s, 2), 1);
        Checks.due("another seal", x.tell(s + 1, 2), -1);
        Checks.due("the seal of nothing", x.tell(1, 2), -1);
        for (int n : new int[] {0, 1, 3, -2, Integer.MAX_VALUE, Integer.MIN_VALUE}) {
            Checks.due("the right seal for " + n, x.tell(s, n), -1);
        }
        x.change(1, 15);
        Checks.due("changed", x.tell(s, 2), -1);
        Checks.due("the seal of the bytes as they are", x.tell(Checks.sealOf(5, 15), 2), 0);
        Checks.due("the seal that was made is no help", x.tell(x.seal(), 2), -1);
    }

    private static void refusedChangesNothing() {
        RetoldRun x = looped(2, 7);
        Checks.due("told", Checks.tellNow(x), 1);
        x.input(9);
        x.run(2);
        Checks.due("refused by the seal", x.tell(0, 4), -1);
        Checks.due("told stays", x.state(1, 9), 2);
        Checks.due("told register stays", x.state(1, 0), 7);
        x.change(0, 4);
        Checks.due("refused, not readable", Checks.tellNow(x), -2);
        Checks.due("told stays", x.state(1, 9), 2);
        Checks.due("told register stays", x.state(1, 0), 7);
        Checks.due("the run stays", x.state(0, 9), 4);
    }

    /** A log of twelve bytes from outside: one interrupt after another, which can be read, and at its end these. */
    private static int toldWith(int... bytes) {
        RetoldRun x = looped(4, Integer.MIN_VALUE, Integer.MIN_VALUE);
        int[] whole = {7, 7, 7, 7, 7, 7, 7, 7, 7, 7, 7, 7};
        System.arraycopy(bytes, 0, whole, 12 - bytes.length, bytes.length);
        Checks.write(x, whole);
        Checks.due("twelve bytes", x.log(), 12);
        int answer = Checks.tellNow(x);
        Checks.due("steps, if it was told", x.state(1, 9), answer < 0 ? 0 : 4);
        return answer;
    }

    private static void dueReadable(String what, int... bytes) {
        Checks.due(what, toldWith(bytes), 0);
    }

    private static void dueUnreadable(String what, int... bytes) {
        Checks.due(what, toldWith(bytes), -2);
    }

    private static void numberNotWhole() {
        dueReadable("the last byte of a head ends it", 135, 0);
        dueUnreadable("the last byte of a head goes on", 135);
        dueUnreadable("the second byte goes on", 135, 128);
        dueUnreadable("the fourth byte goes on", 135, 128, 128, 128);
        dueUnreadable("a head with all bits on", 255);
        dueReadable("the last byte of a value ends it", 5, 127);
        dueUnreadable("the last byte of a value goes on", 5, 128);
        dueUnreadable("the last byte of a time goes on", 6, 255);
        dueReadable("two bytes of a value", 6, 255, 0);
        dueUnreadable("two bytes of a value, and it goes on", 6, 255, 128);
    }

    private static void numberOfMoreThanFiveBytes() {
        dueReadable("a head of five bytes", 135, 128, 128, 128, 0);
        dueUnreadable("a head of six bytes", 135, 128, 128, 128, 128, 0);
        dueUnreadable("a head of seven bytes", 135, 128, 128, 128, 128, 128, 0);
        dueReadable("an input of five bytes", 5, 255, 255, 255, 255, 15);
        dueUnreadable("an input of six bytes", 5, 255, 255, 255, 255, 143, 0);
        dueReadable("a time of five bytes", 6, 128, 128, 128, 128, 0);
        dueUnreadable("a time of six bytes", 6, 128, 128, 128, 128, 128, 0);
        dueUnreadable("a head of six bytes, the last like a head", 135, 128, 128, 128, 128, 7);
        dueUnreadable("an input of six bytes, the last like a head", 5, 128, 128, 128, 128, 128, 7);
        dueUnreadable("a time of six bytes, the last like a head", 6, 128, 128, 128, 128, 128, 7);
        dueUnreadable("six bytes and more behind them", 135, 128, 128, 128, 128, 7, 7, 7);
        dueUnreadable("five bytes, the last going on", 135, 128, 128, 128, 128);
    }

    private static void bitsBeyondThe32nd() {
        dueReadable("a head with bits beyond the 32nd", 135, 128, 128, 128, 127);
        dueReadable("an input with bits beyond the 32nd", 5, 255, 255, 255, 255, 127);
        dueReadable("a head of the 32nd bit and its kind", 131, 128, 128, 128, 8);
        dueUnreadable("a head of a kind and bits beyond alone", 131, 128, 128, 128, 16);
        dueUnreadable("all bits beyond", 131, 128, 128, 128, 112);
        dueUnreadable("no kind, bits beyond", 132, 128, 128, 128, 112);
    }

    private static void entryNotWhole() {
        dueReadable("an interrupt needs no value", 7);
        dueReadable("an IN with its value", 5, 0);
        dueUnreadable("an IN without its value", 5);
        dueReadable("a TIME with its value", 6, 0);
        dueUnreadable("a TIME without its value", 6);
        dueUnreadable("a long head without its value", 133, 1);
        dueReadable("a long head with its value", 133, 1, 0);
    }

    private static void kindOfZero() {
        dueReadable("4 * 1 + 1", 5, 7);
        dueReadable("4 * 1 + 2", 6, 7);
        dueReadable("4 * 1 + 3", 7, 7);
        dueUnreadable("4 * 1 + 0", 4, 7);
        dueUnreadable("4 * 31 + 0", 124, 7);
        dueUnreadable("4 * 32 + 0", 128, 1);
        dueUnreadable("at the end", 4);
    }

    private static void distanceOfZero() {
        dueReadable("d is 1 for IN", 5, 0);
        dueUnreadable("d is 0 for IN", 1, 0);
        dueReadable("d is 1 for TIME", 6, 0);
        dueUnreadable("d is 0 for TIME", 2, 0);
        dueReadable("d is 1 for an interrupt", 7);
        dueUnreadable("d is 0 for an interrupt", 3);
        dueUnreadable("d is 0 in two bytes", 131, 0);
        dueUnreadable("d and kind are 0", 0);
    }

    private static void unreadableAnywhere() {
        dueReadable("all can be read", 7, 7, 7, 7, 7, 7, 7, 7, 7, 7, 7, 7);
        dueUnreadable("the first entry", 3, 7, 7, 7, 7, 7, 7, 7, 7, 7, 7, 7);
        dueUnreadable("the second entry", 7, 4, 7, 7, 7, 7, 7, 7, 7, 7, 7, 7);
        dueUnreadable("an entry of a step that was done", 7, 7, 7, 3, 7, 7, 7, 7, 7, 7, 7, 7);
        dueUnreadable("an entry of a step that never was", 7, 7, 7, 7, 7, 7, 3, 7, 7, 7, 7, 7);
        dueUnreadable("the last entry", 7, 7, 7, 7, 7, 7, 7, 7, 7, 7, 7, 3);
    }

    private static void noLogIsReadable() {
        RetoldRun x = looped(3);
        Checks.due("no byte", x.log(), 0);
        Checks.due("the seal of none", x.tell(1, 0), 1);
        Checks.due("told", x.state(1, 9), 3);
        Checks.due("another seal", x.tell(0, 0), -1);
        Checks.due("one byte", x.tell(1, 1), -1);
    }

    private static void readableAgain() {
        RetoldRun x = looped(2, 7);
        x.change(0, 4);
        Checks.due("not readable", Checks.tellNow(x), -2);
        x.change(0, 5);
        dueTold("readable again", x, 1, 0, 7);
    }

    private static void sealComesFirst() {
        RetoldRun x = looped(2, 7);
        x.change(0, 0);
        Checks.due("neither sealed nor readable", x.tell(x.seal(), 2), -1);
        Checks.due("sealed, not readable", Checks.tellNow(x), -2);
        Checks.due("not readable, of another length", x.tell(Checks.sealOf(0, 14), 1), -1);
    }

    private static void otherInputs() {
        RetoldRun x = looped(4, 7, 9);
        Checks.dueLog("two inputs", x, 5, 14, 9, 18);
        x.change(3, 19);
        dueTold("another second input", x, 0, 0, -10);
        Checks.due("the run has its own", x.state(0, 0), 9);
        x.change(3, 18);
        dueTold("as it was", x, 1, 0, 9);
        x.change(1, 12);
        dueTold("another first input shows in the trace alone", x, 0, 0, 9);
        Checks.due("the trace is another", x.state(1, 6) != x.state(0, 6), true);
    }

    private static void droppedBits() {
        RetoldRun x = looped(2, Integer.MIN_VALUE);
        Checks.dueLog("lowest", x, 5, 255, 255, 255, 255, 15);
        x.change(5, 127);
        dueTold("bits beyond the 32nd are dropped", x, 1, 0, Integer.MIN_VALUE);
        x.change(5, 7);
        dueTold("the 32nd bit is not", x, 0, 0, -(1 << 30));
        Checks.write(x, 5, 142, 128, 128, 128, 0);
        dueTold("a number longer than need be", x, 0, 0, 7);
    }

    private static void longHeads() {
        RetoldRun x = looped(2, Integer.MIN_VALUE);
        Checks.write(x, 133, 128, 128, 128, 0, 15);
        dueTold("a head of five bytes", x, 0, 0, -8);
        Checks.write(x, 133, 128, 128, 128, 112, 15);
        dueTold("whose bits beyond the 32nd are dropped", x, 0, 0, -8);
        Checks.write(x, 133, 128, 128, 128, 8, 15);
        dueTold("or a step that never comes", x, 0, 0, 0);
    }

    private static void stepsDoNotWrap() {
        RetoldRun x = looped(8, Integer.MIN_VALUE, Integer.MIN_VALUE, Integer.MIN_VALUE, 70000);
        Checks.due("22 bytes", x.log(), 22);
        for (int i = 0; i < 20; i += 5) {
            x.change(i, 255);
            x.change(i + 1, 255);
            x.change(i + 2, 255);
            x.change(i + 3, 255);
            x.change(i + 4, 15);
        }
        x.change(20, 21 + 8 * 3);
        x.change(21, 22);
        dueTold("no step is so far", x, 0, 0, 0);
        Checks.due("all inputs are 0 there", x.state(1, 6), looped(8).state(0, 6));
    }

    private static void entryOfNoUse() {
        RetoldRun x = looped(2, 0);
        Checks.dueLog("an input of 0", x, 5, 0);
        x.change(0, 9);
        dueTold("its step has no use for it, and IN gives 0 anyway", x, 1, 0, 0);
        x.change(1, 8);
        dueTold("still of no use", x, 1, 0, 0);
        x.change(0, 13);
        dueTold("beyond the last step", x, 1, 0, 0);
        RetoldRun y = looped(4, 7, 9);
        y.change(0, 9);
        y.change(2, 5);
        dueTold("the first of no use, the second in its place", y, 0, 0, 9);
        y.change(2, 9);
        dueTold("the second too late", y, 0, 0, 0);
    }

    private static void wrongKinds() {
        RetoldRun x = looped(2, 7);
        x.change(0, 6);
        dueTold("a time for an IN", x, 0, 0, 0);
        RetoldRun y = Checks.with(0, 8, 0, 0, 8, 1, 0);
        y.pass(7);
        y.run(2);
        Checks.dueLog("a time", y, 6, 7);
        y.change(0, 5);
        dueTold("an input for a TIME", y, 0, 0, 0);
        y.change(0, 10);
        dueTold("a time for the second TIME", y, 0, 0, 0);
        Checks.due("the second TIME", y.state(1, 1), 7);
    }

    private static void inWithoutAnEntry() {
        RetoldRun x = Checks.with(0, 7, 0, 0, 7, 1, 0, 7, 2, 0);
        x.input(1);
        x.input(2);
        x.input(3);
        x.run(3);
        Checks.dueLog("three inputs", x, 5, 2, 5, 4, 5, 6);
        Checks.write(x, 9, 2, 6, 4, 7, 7);
        dueTold("an entry of step 2, a time and two interrupts", x, 0, 1, 1);
        Checks.due("no entry for the first: 0", x.state(1, 0), 0);
        Checks.due("an entry of another kind for the third: 0", x.state(1, 2), 0);
        x.input(99);
        Checks.due("told", Checks.tellNow(x), 0);
        Checks.due("an input that waits is left aside", x.state(1, 2), 0);
    }

    private static void timeWithoutAnEntry() {
        RetoldRun x = Checks.with(0, 8, 0, 0, 8, 1, 0, 8, 2, 0, 8, 3, 0);
        x.pass(5);
        x.run(1);
        x.pass(6);
        x.run(2);
        x.pass(7);
        x.run(1);
        Checks.dueLog("three times", x, 6, 5, 6, 6, 10, 7);
        dueTold("the third TIME gives what the second gave", x, 1, 2, 11);
        Checks.write(x, 10, 5, 5, 6, 6, 7);
        dueTold("no entry for the first: 0", x, 0, 0, 0);
        Checks.due("the second", x.state(1, 1), 5);
        Checks.due("an entry of another kind for the third: what the second gave", x.state(1, 2), 5);
        Checks.due("the fourth", x.state(1, 3), 12);
        x.pass(1000);
        Checks.due("told", Checks.tellNow(x), 0);
        Checks.due("the clock is left aside", x.state(1, 0), 0);
    }

    private static void timeEntryOfNoUse() {
        RetoldRun x = Checks.with(0, 8, 0, 0, 0, 3, 1, 8, 1, 0);
        x.pass(5);
        x.run(2);
        x.pass(6);
        x.run(1);
        Checks.dueLog("steps 1 and 3", x, 6, 5, 10, 6);
        x.change(2, 6);
        dueTold("for the SET of step 2 it does nothing", x, 0, 1, 5);
        Checks.due("the SET is done", x.state(1, 3), 1);
        x.change(2, 14);
        dueTold("for step 4, which is not done, it does nothing", x, 0, 1, 5);
        x.change(2, 10);
        dueTold("for step 3 it does", x, 1, 1, 11);
    }

    private static void sameSeed() {
        for (int seed : new int[] {0, 1, -1, Integer.MAX_VALUE, Integer.MIN_VALUE}) {
            RetoldRun x = Checks.with(seed, 9, 0, 0, 9, 1, 0, 9, 2, 0);
            x.run(2);
            Checks.due("told with seed " + seed, x.tell(1, 0), 1);
            Checks.due("the first lot", x.state(1, 0), seed * 1103515245 + 12345 >>> 16);
            x.run(1);
            Checks.due("told anew with seed " + seed, x.tell(1, 0), 1);
            Checks.due("the third lot is the run's own", x.state(1, 2), x.state(0, 2));
        }
    }

    private static void asManyStepsAsInTheRun() {
        RetoldRun x = Checks.with(0, 5, 0, 0);
        Checks.due("before the run", x.tell(1, 0), 1);
        Checks.due("no step", x.state(1, 9), 0);
        x.run(1);
        Checks.due("told", x.tell(1, 0), 1);
        Checks.due("one step", x.state(1, 9), 1);
        for (int i = 0; i < 10; i++) {
            x.run(100);
        }
        Checks.due("what was told is as it was told", x.state(1, 9), 1);
        Checks.due("told", x.tell(1, 0), 1);
        Checks.due("steps", x.state(1, 9), 1001);
    }

    private static void eachAnswer() {
        RetoldRun x = looped(2, 7);
        Checks.due("as for the run", x.tell(Checks.sealOf(5, 14), 2), 1);
        x.change(1, 16);
        Checks.due("not as for the run", x.tell(Checks.sealOf(5, 16), 2), 0);
        Checks.due("not this seal", x.tell(Checks.sealOf(5, 14), 2), -1);
        Checks.due("not as many", x.tell(Checks.sealOf(5, 16), 3), -1);
        x.change(0, 3);
        Checks.due("not readable", x.tell(Checks.sealOf(3, 16), 2), -2);
        Checks.due("what was told last", x.state(1, 0), 8);
    }

    private static void timesAddUp() {
        RetoldRun x = Checks.with(0, 8, 0, 0, 0, 3, 5, 8, 1, 0, 8, 2, 0);
        x.pass(10);
        x.run(2);
        x.pass(20);
        x.run(2);
        Checks.dueLog("two times", x, 6, 10, 10, 20);
        dueTold("told", x, 1, 2, 30);
        x.change(1, 11);
        dueTold("one more from the first on", x, 0, 2, 31);
        Checks.due("the first", x.state(1, 0), 11);
        x.change(1, 10);
        x.change(0, 10);
        x.change(2, 6);
        dueTold("a time of no use adds nothing", x, 0, 1, 20);
        Checks.due("TIME before any", x.state(1, 0), 0);
        Checks.due("TIME after", x.state(1, 2), 20);
    }

    private static RetoldRun handled(int handler) {
        RetoldRun x = new RetoldRun(0);
        for (int i = 0; i < 15; i++) {
            x.add(0, 0, i + 1);
        }
        x.add(5, 0, 0);
        x.add(handler, 1, 7);
        x.add(11, 0, 0);
        return x;
    }

    private static void interruptsAsTheLogHasThem() {
        RetoldRun x = handled(0);
        x.run(1);
        x.request();
        x.run(3);
        Checks.dueLog("in step 2", x, 11);
        x.request();
        dueTold("requests are left aside", x, 1, 4, 1);
        Checks.due("the request is still there", x.request(), false);
        x.change(0, 7);
        dueTold("in step 1", x, 0, 4, 1);
        Checks.due("the handler was there", x.state(1, 1), 7);
        x.change(0, 15);
        dueTold("in step 3", x, 0, 4, 17);
        Checks.due("inside", x.state(1, 7), 1);
        x.change(0, 19);
        dueTold("in the last step", x, 0, 4, 16);
        x.change(0, 23);
        dueTold("too late", x, 0, 4, 4);
    }

    private static void interruptsOfNoUse() {
        RetoldRun x = handled(0);
        x.request();
        x.run(3);
        x.request();
        x.run(3);
        Checks.dueLog("in steps 1 and 4", x, 7, 15);
        dueTold("told", x, 1, 4, 0);
        x.change(1, 7);
        dueTold("one while inside does nothing", x, 0, 4, 3);
        Checks.due("not inside", x.state(1, 7), 0);
        RetoldRun y = looped(4, 0);
        Checks.write(y, 7, 11);
        dueTold("no instruction 16", y, 1, 4, 0);
    }

    private static void toldEndsEarlier() {
        RetoldRun x = Checks.with(0, 7, 0, 0, 6, 0, 3, 5, 0, 0, 12, 0, 0);
        x.input(1);
        x.input(2);
        x.input(3);
        x.run(8);
        Checks.due("not ended", x.state(0, 8), 0);
        x.change(3, 0);
        dueTold("ended in the second round", x, 0, 9, 6);
        Checks.due("ended", x.state(1, 8), 1);
        Checks.due("at 4", x.state(1, 4), 4);
    }

    private static void toldEndsLater() {
        RetoldRun x = Checks.with(0, 7, 0, 0, 6, 0, 3, 5, 0, 0, 12, 0, 0);
        x.input(0);
        Checks.due("ended soon", x.run(50), 3);
        dueTold("told", x, 1, 8, 1);
        x.change(1, 2);
        dueTold("as many steps as were done", x, 0, 9, 3);
        Checks.due("not ended", x.state(1, 8), 0);
    }

    private static void cellsCount() {
        RetoldRun x = Checks.with(0, 7, 0, 0, 4, 0, 0, 0, 0, 1);
        x.input(9);
        x.run(3);
        Checks.due("cell", x.cell(0, 9), 9);
        x.change(1, 2 * 41);
        Checks.due("told", Checks.tellNow(x), 0);
        Checks.due("another number in the same cell", x.cell(1, 9), 41);
        x.change(1, 20);
        Checks.due("told anew", Checks.tellNow(x), 0);
        Checks.due("cells are 0 at first again", x.cell(1, 9), 0);
        Checks.due("the other cell", x.cell(1, 10), 10);
    }

    private static void tellingLeavesTheRun() {
        RetoldRun x = looped(2, 7);
        x.input(8);
        x.input(9);
        x.pass(5);
        x.request();
        Checks.due("told", Checks.tellNow(x), 1);
        Checks.due("told twice", Checks.tellNow(x), 1);
        Checks.dueLog("the log", x, 5, 14);
        Checks.due("entries", x.entries(), 1);
        Checks.due("seal", x.seal(), Checks.sealOf(5, 14));
        Checks.due("steps", x.state(0, 9), 2);
        Checks.due("inputs", x.input(10), 3);
        Checks.due("request", x.request(), false);
        x.run(1);
        Checks.due("the run goes on", x.state(0, 0), 8);
        Checks.due("told further", Checks.tellNow(x), 1);
        Checks.due("told steps", x.state(1, 9), 3);
    }
}
