/** Promise 7: run. */
public final class RunTest {
    public static void main(String[] args) {
        counts();
        refused();
        noProgram();
        fullLog();
        exactly290();
        Checks.finish(RunTest.class);
    }

    private static void counts() {
        RetoldRun x = Checks.with(0, 0, 1, 1, 1, 0, 1, 5, 0, 1);
        Checks.due("run(1)", x.run(1), 1);
        Checks.due("run(100)", x.run(100), 100);
        Checks.due("steps", x.state(0, 9), 101);
        Checks.due("the run goes on where it was", x.state(0, 0), 50);
        RetoldRun y = Checks.with(0, 0, 0, 1, 0, 0, 2, 12, 0, 0, 0, 0, 3);
        Checks.due("ends by its third step", y.run(100), 3);
        Checks.due("none is left", y.run(100), 0);
        Checks.due("register", y.state(0, 0), 2);
        RetoldRun z = Checks.with(0, 0, 0, 1, 0, 0, 2);
        Checks.due("one step beyond the program", z.run(100), 3);
        Checks.due("then none", z.run(1), 0);
    }

    private static void refused() {
        RetoldRun x = Checks.with(0, 0, 0, 5);
        x.input(3);
        for (int n : new int[] {0, -1, 101, Integer.MAX_VALUE, Integer.MIN_VALUE}) {
            Checks.due("run(" + n + ")", x.run(n), -1);
        }
        Checks.due("nothing was done", x.state(0, 9), 0);
        Checks.due("nor begun", x.add(0, 0, 6), 1);
        x.run(3);
        Checks.due("refused in an ended run", x.run(0), -1);
        Checks.due("refused in an ended run", x.run(101), -1);
    }

    private static void noProgram() {
        RetoldRun x = new RetoldRun(5);
        x.request();
        x.input(1);
        Checks.due("a step without an instruction", x.run(3), 1);
        Checks.due("ended", x.state(0, 8), 1);
        Checks.due("place", x.state(0, 4), 0);
        Checks.due("then none", x.run(3), 0);
        Checks.due("the request waits", x.request(), false);
        Checks.due("the input waits", x.input(1), 2);
        Checks.due("told", x.tell(1, 0), 1);
    }

    private static RetoldRun swallowing(int entries) {
        RetoldRun x = Checks.with(0, 7, 0, 0, 5, 0, 0);
        for (int i = 0; i < entries; i++) {
            x.input(Integer.MIN_VALUE);
            Checks.due("entry " + i, x.run(2), 2);
        }
        Checks.due("six bytes each", x.log(), 6 * entries);
        return x;
    }

    private static void fullLog() {
        RetoldRun x = swallowing(48);
        x.input(Integer.MIN_VALUE);
        x.input(Integer.MIN_VALUE);
        Checks.due("288 bytes: one step, then 294", x.run(100), 1);
        Checks.due("log", x.log(), 294);
        Checks.due("no more steps", x.run(100), 0);
        Checks.due("it has not ended", x.state(0, 8), 0);
        Checks.due("steps", x.state(0, 9), 97);
        Checks.due("one input waits", x.input(0), 2);
        Checks.due("entries", x.entries(), 49);
        Checks.due("told", Checks.tellNow(x), 1);
        Checks.due("told to the same step", x.state(1, 9), 97);
        Checks.due("a full log cannot be grown", x.change(294, 0), false);
        x.clear();
        x.add(5, 0, 0);
        Checks.due("after clear there is room", x.run(100), 100);
    }

    private static void exactly290() {
        RetoldRun x = swallowing(48);
        x.input(1);
        Checks.due("290 bytes are not too many", x.run(100), 100);
        Checks.due("log", x.log(), 290);
        x.input(1);
        Checks.due("one more", x.run(100), 1);
        Checks.due("293 are", x.log(), 293);
        Checks.due("no more steps", x.run(1), 0);
        RetoldRun y = swallowing(47);
        y.input(Integer.MIN_VALUE);
        y.run(1);
        y.input(100);
        Checks.due("291 bytes are too many", y.run(100), 2);
        Checks.due("log", y.log(), 291);
    }
}
