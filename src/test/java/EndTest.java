/** "If there is none at the place: it has ended, and that is all", and "if the machine has ended, nothing". */
public final class EndTest {
    public static void main(String[] args) {
        lastInstructionIsDone();
        jumpToTheLastOrBeyond();
        fullProgramEndsBehindIt();
        noProgramEndsAtOnce();
        thatIsAll();
        endedDoesNothing();
        endedWithoutInstructionDoesNothing();
        endCountsAsTheLastOfACall();
        endCountsAlone();
        insideWhenItEnds();
        toldToTheEnd();
        Checks.finish(EndTest.class);
    }

    private static void dueEnd(String when, RetoldRun x, int place, int ended, int steps) {
        Checks.due(when + ": place", x.state(0, 4), place);
        Checks.due(when + ": ended", x.state(0, 8), ended);
        Checks.due(when + ": steps", x.state(0, 9), steps);
    }

    private static void lastInstructionIsDone() {
        RetoldRun x = Checks.with(0, 0, 0, 5);
        Checks.due("the one instruction", x.run(1), 1);
        dueEnd("after it", x, 1, 0, 1);
        Checks.due("it was done", x.state(0, 0), 5);
        Checks.due("none at the place", x.run(1), 1);
        dueEnd("then", x, 1, 1, 2);
        Checks.due("no step more", x.run(1), 0);
        dueEnd("and then", x, 1, 1, 2);
    }

    private static void jumpToTheLastOrBeyond() {
        RetoldRun last = Checks.with(0, 5, 0, 3, 12, 0, 0, 12, 0, 0, 0, 1, 9);
        last.run(2);
        dueEnd("JUMP to the last", last, 4, 0, 2);
        Checks.due("the last is done", last.state(0, 1), 9);
        RetoldRun beyond = Checks.with(0, 5, 0, 4, 12, 0, 0, 12, 0, 0, 0, 1, 9);
        beyond.run(1);
        dueEnd("JUMP beyond the last", beyond, 4, 0, 1);
        beyond.run(1);
        dueEnd("none there", beyond, 4, 1, 2);
        Checks.due("nothing is done", beyond.state(0, 1), 0);
        RetoldRun zero = Checks.with(0, 6, 0, 23, 0, 1, 9);
        zero.run(1);
        dueEnd("ZERO to 23", zero, 23, 0, 1);
        Checks.due("one step more", zero.run(100), 1);
        dueEnd("none there either", zero, 23, 1, 2);
    }

    private static void fullProgramEndsBehindIt() {
        RetoldRun x = new RetoldRun(0);
        for (int i = 0; i < 24; i++) {
            Checks.due("add " + i, x.add(0, 0, 100 + i), i);
        }
        Checks.due("23 instructions", x.run(23), 23);
        Checks.due("register after 22", x.state(0, 0), 122);
        Checks.due("the 24th", x.run(1), 1);
        Checks.due("register after 23", x.state(0, 0), 123);
        dueEnd("behind the last", x, 24, 0, 24);
        Checks.due("no 25th", x.run(100), 1);
        dueEnd("ended", x, 24, 1, 25);
        Checks.due("told", Checks.tellNow(x), 1);
    }

    private static void noProgramEndsAtOnce() {
        RetoldRun x = new RetoldRun(0);
        dueEnd("before", x, 0, 0, 0);
        Checks.due("one step", x.run(100), 1);
        dueEnd("after", x, 0, 1, 1);
        Checks.due("none", x.run(100), 0);
    }

    private static void thatIsAll() {
        RetoldRun x = Checks.with(3, 0, 0, 5, 0, 1, -6, 0, 2, 7, 0, 3, 8, 4, 1, 3, 10, 2, 0, 5, 0, 20);
        x.run(7);
        x.input(44);
        x.pass(44);
        x.request();
        int[] before = Checks.seenOf(x);
        Checks.due("the step that finds none", x.run(1), 1);
        int[] want = before.clone();
        want[6] = Checks.traced(before[6], 20, 5, -6, 7, 8, 7 * 16777619);
        want[8] = 1;
        want[9] = 8;
        Checks.dueSame("it has ended, and that is all", Checks.seenOf(x), want);
        Checks.due("the input waits", x.input(45), 2);
        Checks.due("the request is there", x.request(), false);
    }

    private static void dueNothingAfter(String when, RetoldRun x) {
        Checks.due(when, x.state(0, 8), 1);
        int[] before = Checks.seenOf(x);
        Checks.due(when + ": an input", x.input(7), 1);
        Checks.due(when + ": a request", x.request(), true);
        Checks.due(when + ": time", x.pass(5), true);
        Checks.due(when + ": run(1)", x.run(1), 0);
        Checks.due(when + ": run(100)", x.run(100), 0);
        Checks.dueSame(when + ": nothing", Checks.seenOf(x), before);
        Checks.due(when + ": the input waits", x.input(8), 2);
        Checks.due(when + ": the request is there", x.request(), false);
    }

    private static int[] seventeenAfter(int... first) {
        int[] all = new int[17 * 3];
        for (int i = 0; i < all.length; i += 3) {
            all[i] = 7;
        }
        System.arraycopy(first, 0, all, 0, first.length);
        return all;
    }

    private static void endedDoesNothing() {
        RetoldRun x = Checks.with(0, seventeenAfter(7, 1, 0, 10, 1, 0, 12, 0, 0));
        x.input(9);
        Checks.due("to the end", x.run(100), 3);
        Checks.due("END leaves the place behind it", x.state(0, 4), 3);
        dueNothingAfter("after END", x);
    }

    private static void endedWithoutInstructionDoesNothing() {
        RetoldRun x = Checks.with(0, seventeenAfter(7, 1, 0, 5, 0, 17));
        x.input(9);
        Checks.due("to the end", x.run(100), 3);
        dueNothingAfter("after a place without instruction", x);
    }

    private static void endCountsAsTheLastOfACall() {
        int[] program = {0, 0, 1, 0, 0, 2, 12, 0, 0, 0, 0, 3};
        RetoldRun before = Checks.with(0, program);
        Checks.due("up to before END", before.run(2), 2);
        dueEnd("before END", before, 2, 0, 2);
        RetoldRun with = Checks.with(0, program);
        Checks.due("with END", with.run(3), 3);
        dueEnd("with END", with, 3, 1, 3);
        RetoldRun beyond = Checks.with(0, program);
        Checks.due("beyond END", beyond.run(4), 3);
        dueEnd("beyond END", beyond, 3, 1, 3);
        Checks.due("nothing after END", beyond.state(0, 0), 2);
    }

    private static void endCountsAlone() {
        RetoldRun x = Checks.with(0, 0, 0, 1, 12, 0, 0);
        Checks.due("before", x.run(1), 1);
        Checks.due("END alone", x.run(1), 1);
        Checks.due("after", x.run(1), 0);
        RetoldRun y = Checks.with(0, 0, 0, 1);
        Checks.due("before", y.run(1), 1);
        Checks.due("a place without instruction alone", y.run(1), 1);
        Checks.due("after", y.run(1), 0);
    }

    private static void insideWhenItEnds() {
        int[] program = seventeenAfter(7, 0, 0);
        program[48] = 12;
        RetoldRun x = Checks.with(0, program);
        x.request();
        Checks.due("an interrupt and END", x.run(100), 2);
        dueEnd("END inside", x, 17, 1, 2);
        Checks.due("still inside", x.state(0, 7), 1);
        Checks.due("a request after it", x.request(), true);
        Checks.due("comes to nothing", x.run(100), 0);
        Checks.dueLog("one entry", x, 7);
    }

    private static void toldToTheEnd() {
        RetoldRun x = Checks.with(0, 7, 0, 0, 12, 0, 0);
        x.input(4);
        x.run(1);
        Checks.due("told before the end", Checks.tellNow(x), 1);
        Checks.due("not ended", x.state(1, 8), 0);
        x.run(1);
        Checks.due("told to the end", Checks.tellNow(x), 1);
        Checks.due("ended", x.state(1, 8), 1);
        Checks.due("steps", x.state(1, 9), 2);
        x.run(100);
        Checks.due("told again", Checks.tellNow(x), 1);
        Checks.due("no step more", x.state(1, 9), 2);
    }
}
