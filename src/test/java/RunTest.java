/** Promise 7: run. */
public final class RunTest {
    public static void main(String[] args) {
        counts();
        refused();
        noProgram();
        fullLog();
        exactly290();
        fullLogBeforeTheEnd();
        fullLogAndARequest();
        longestLog();
        hundredStepsAtMost();
        fiveHundredAndTwelveCalls();
        Checks.finish(RunTest.class);
    }

    private static void counts() {
        RetoldRun x = Checks.with(0, 0, 1, 1, 1, 0, 1, 5, 0, 1);
        Checks.due("run(1)", x.run(1), 1);
        Checks.due("run(100)", x.run(100), 100);
        Checks.due("steps", x.state(0, 9), 101);
        Checks.due("the run goes on where it was", x.state(0, 0), 50);
        RetoldRun y = Checks.with(0, 0, 0, 1, 0, 0, 2, 12, 0, 0, 0, 0, 3);
        Checks.due("ends by its third step", y.run(100), 3);
        Checks.due("none is left", y.run(100), 0);
        Checks.due("register", y.state(0, 0), 2);
        RetoldRun z = Checks.with(0, 0, 0, 1, 0, 0, 2);
        Checks.due("one step beyond the program", z.run(100), 3);
        Checks.due("then none", z.run(1), 0);
    }

    private static void refused() {
        RetoldRun x = Checks.with(0, 0, 0, 5);
        x.input(3);
        for (int n : new int[] {0, -1, 101, Integer.MAX_VALUE, Integer.MIN_VALUE}) {
            Checks.due("run(" + n + ")", x.run(n), -1);
        }
        Checks.due("nothing was done", x.state(0, 9), 0);
        Checks.due("nor begun", x.add(0, 0, 6), 1);
        x.run(3);
        Checks.due("refused in an ended run", x.run(0), -1);
        Checks.due("refused in an ended run", x.run(101), -1);
    }

    private static void noProgram() {
        RetoldRun x = new RetoldRun(5);
        x.request();
        x.input(1);
        Checks.due("a step without an instruction", x.run(3), 1);
        Checks.due("ended", x.state(0, 8), 1);
        Checks.due("place", x.state(0, 4), 0);
        Checks.due("then none", x.run(3), 0);
        Checks.due("the request waits", x.request(), false);
        Checks.due("the input waits", x.input(1), 2);
        Checks.due("told", x.tell(1, 0), 1);
    }

    private static RetoldRun swallowing(int entries) {
        RetoldRun x = Checks.with(0, 7, 0, 0, 5, 0, 0);
        for (int i = 0; i < entries; i++) {
            x.input(Integer.MIN_VALUE);
            Checks.due("entry " + i, x.run(2), 2);
        }
        Checks.due("six bytes each", x.log(), 6 * entries);
        return x;
    }

    private static void fullLog() {
        RetoldRun x = swallowing(48);
        x.input(Integer.MIN_VALUE);
        x.input(Integer.MIN_VALUE);
        Checks.due("288 bytes: one step, then 294", x.run(100), 1);
        Checks.due("log", x.log(), 294);
        Checks.due("no more steps", x.run(100), 0);
        Checks.due("it has not ended", x.state(0, 8), 0);
        Checks.due("steps", x.state(0, 9), 97);
        Checks.due("one input waits", x.input(0), 2);
        Checks.due("entries", x.entries(), 49);
        Checks.due("told", Checks.tellNow(x), 1);
        Checks.due("told to the same step", x.state(1, 9), 97);
        Checks.due("a full log cannot be grown", x.change(294, 0), false);
        x.clear();
        x.add(5, 0, 0);
        Checks.due("after clear there is room", x.run(100), 100);
    }

    /** A log of 290 bytes after 98 steps, the last entry being of step 97, and a RETURN at 16. */
    private static RetoldRun filled() {
        RetoldRun x = Checks.with(0, 7, 0, 0, 5, 0, 0);
        for (int i = 2; i < 17; i++) {
            x.add(11, 0, 0);
        }
        for (int i = 0; i < 48; i++) {
            x.input(Integer.MIN_VALUE);
            x.run(2);
        }
        x.input(1);
        x.run(2);
        Checks.due("290", x.log(), 290);
        return x;
    }

    /** The second IN ends the loop in the step that fills the log, so that ZERO and END would be next. */
    private static void fullLogBeforeTheEnd() {
        RetoldRun x = Checks.with(0, 7, 0, 0, 7, 1, 0, 6, 1, 0, 12, 0, 0);
        for (int i = 0; i < 48; i++) {
            x.input(Integer.MIN_VALUE);
            x.run(3);
        }
        Checks.due("the second IN found none", x.state(0, 1), 0);
        Checks.due("288", x.log(), 288);
        x.input(0);
        x.input(70000);
        Checks.due("two entries, of two bytes and of four", x.run(100), 2);
        Checks.due("294", x.log(), 294);
        Checks.due("neither ZERO nor END is done", x.run(100), 0);
        Checks.due("not ended", x.state(0, 8), 0);
        Checks.due("place", x.state(0, 4), 2);
    }

    private static void fullLogAndARequest() {
        RetoldRun x = filled();
        x.request();
        Checks.due("an interrupt at 290", x.run(1), 1);
        Checks.due("291", x.log(), 291);
        Checks.due("inside", x.state(0, 7), 1);
        Checks.due("the request is gone", x.request(), true);
        Checks.due("RETURN is not done at 291", x.run(1), 0);
        Checks.due("still inside", x.state(0, 7), 1);
        Checks.due("the request waits", x.request(), false);
        Checks.due("told", Checks.tellNow(x), 1);
    }

    /** 290 bytes, and then an entry as long as 512 calls can make one: all of it is kept. */
    private static void longestLog() {
        RetoldRun x = filled();
        for (int i = 0; i < 41; i++) {
            Checks.due("a hundred steps without an entry", x.run(100), 100);
        }
        x.input(Integer.MIN_VALUE);
        Checks.due("one step", x.run(100), 1);
        Checks.due("298", x.log(), 298);
        int[] tail = {153, 128, 1, 255, 255, 255, 255, 15};
        for (int i = 0; i < tail.length; i++) {
            Checks.due("at " + (290 + i), x.at(290 + i), tail[i]);
        }
        Checks.due("none behind it", x.at(298), -1);
        Checks.due("the last byte can be changed", x.change(297, 15), true);
        Checks.due("none behind it can", x.change(298, 0), false);
        Checks.due("told", x.tell(x.seal(), 298), 1);
        Checks.due("told register", x.state(1, 0), Integer.MIN_VALUE);
    }

    private static void hundredStepsAtMost() {
        RetoldRun x = Checks.with(0, 5, 0, 0);
        Checks.due("run(0)", x.run(0), -1);
        Checks.due("run(1)", x.run(1), 1);
        Checks.due("run(99)", x.run(99), 99);
        Checks.due("run(100)", x.run(100), 100);
        Checks.due("run(101)", x.run(101), -1);
        Checks.due("200 steps", x.state(0, 9), 200);
    }

    /** The last of the 512 calls still answers: two of them add, 506 run, and one input is told of. */
    private static void fiveHundredAndTwelveCalls() {
        RetoldRun x = Checks.with(0, 7, 0, 0, 5, 0, 0);
        for (int i = 0; i < 505; i++) {
            Checks.due("call " + (3 + i), x.run(100), 100);
        }
        Checks.due("call 508", x.input(-2), 1);
        Checks.due("call 509, of step 50501", x.run(100), 100);
        int s = Checks.sealOf(149, 170, 12, 3);
        Checks.due("call 510", x.seal(), s);
        Checks.due("call 511", x.tell(s, 4), 1);
        Checks.due("call 512", x.state(1, 9), 50600);
    }

    private static void exactly290() {
        RetoldRun x = swallowing(48);
        x.input(1);
        Checks.due("290 bytes are not too many", x.run(100), 100);
        Checks.due("log", x.log(), 290);
        x.input(1);
        Checks.due("one more", x.run(100), 1);
        Checks.due("293 are", x.log(), 293);
        Checks.due("no more steps", x.run(1), 0);
        RetoldRun y = swallowing(47);
        y.input(Integer.MIN_VALUE);
        y.run(1);
        y.input(100);
        Checks.due("291 bytes are too many", y.run(100), 2);
        Checks.due("log", y.log(), 291);
    }
}
