/** Promises 1 (a new object), 2 (add) and 3 (clear). */
public final class ProgramTest {
    public static void main(String[] args) {
        newObjects();
        numbers();
        refusedInstructions();
        operationsAtTheEdges();
        targetsAtTheEdges();
        targetsOfJumpAndZeroAlone();
        addAfterRun();
        addAfterARunThatEnded();
        addAfterARunOfOneInterrupt();
        clearAll();
        clearCounts();
        clearBeforeAnyRun();
        clearAfterTheEnd();
        clearOfAFullLog();
        clearKeepsWhatWasTold();
        Checks.finish(ProgramTest.class);
    }

    private static void dueAsAtFirst(String when, RetoldRun x) {
        for (int what = 0; what <= 9; what++) {
            Checks.due(when + ": state 0 " + what, x.state(0, what), 0);
        }
        for (int i = 0; i < 32; i++) {
            Checks.due(when + ": cell 0 " + i, x.cell(0, i), 0);
        }
        Checks.due(when + ": log", x.log(), 0);
        Checks.due(when + ": at 0", x.at(0), -1);
        Checks.due(when + ": entries", x.entries(), 0);
        Checks.due(when + ": seal of nothing", x.seal(), 1);
    }

    private static void newObjects() {
        for (int seed : new int[] {0, 1, 42, -1, Integer.MAX_VALUE, Integer.MIN_VALUE}) {
            RetoldRun x = new RetoldRun(seed);
            dueAsAtFirst("new " + seed, x);
            for (int what = 0; what <= 9; what++) {
                Checks.due("new: state 1 " + what, x.state(1, what), 0);
            }
            Checks.due("no program at first", x.clear(), 0);
            Checks.due("DRAW", x.add(9, 0, 0), 0);
            Checks.due("DRAW again", x.add(9, 1, 0), 1);
            x.run(2);
            int lot = seed * 1103515245 + 12345;
            Checks.due("the first lot", x.state(0, 0), lot >>> 16);
            lot = lot * 1103515245 + 12345;
            Checks.due("the second lot", x.state(0, 1), lot >>> 16);
        }
        Checks.due("told before any run", new RetoldRun(3).tell(1, 0), 1);
    }

    private static void numbers() {
        RetoldRun x = new RetoldRun(0);
        for (int i = 0; i < 24; i++) {
            Checks.due("add " + i, x.add(i % 13, i, i), i);
        }
        Checks.due("add when there are 24", x.add(0, 0, 0), -1);
        Checks.due("still refused", x.add(12, 0, 0), -1);
        Checks.due("24 were there", x.clear(), 24);
        Checks.due("numbers from 0 again", x.add(0, 0, 0), 0);
    }

    private static void refusedInstructions() {
        RetoldRun x = new RetoldRun(0);
        for (int operation : new int[] {-1, 13, 14, 256, Integer.MAX_VALUE, Integer.MIN_VALUE}) {
            Checks.due("operation " + operation, x.add(operation, 0, 0), -1);
        }
        for (int b : new int[] {-1, 24, 25, Integer.MAX_VALUE, Integer.MIN_VALUE}) {
            Checks.due("JUMP to " + b, x.add(5, 0, b), -1);
            Checks.due("ZERO to " + b, x.add(6, 0, b), -1);
        }
        Checks.due("JUMP to 23", x.add(5, 0, 23), 0);
        Checks.due("ZERO to 23", x.add(6, 0, 23), 1);
        Checks.due("JUMP to 0", x.add(5, 0, 0), 2);
        int next = 3;
        for (int operation : new int[] {0, 1, 2, 3, 4, 7, 8, 9, 10, 11, 12}) {
            Checks.due("b is free for " + operation, x.add(operation, Integer.MIN_VALUE, -1), next);
            next++;
        }
        Checks.due("a is free for JUMP", x.add(5, Integer.MIN_VALUE, 1), next);
        Checks.due("refused ones left nothing", x.clear(), next + 1);
    }

    private static void operationsAtTheEdges() {
        RetoldRun x = new RetoldRun(0);
        Checks.due("below the first", x.add(-1, 0, 0), -1);
        Checks.due("the first", x.add(0, 0, 0), 0);
        Checks.due("the last", x.add(12, 0, 0), 1);
        Checks.due("beyond the last", x.add(13, 0, 0), -1);
        Checks.due("two were there", x.clear(), 2);
    }

    private static void targetsAtTheEdges() {
        for (int operation = 5; operation <= 6; operation++) {
            RetoldRun x = new RetoldRun(0);
            Checks.due(operation + " to -1", x.add(operation, 0, -1), -1);
            Checks.due(operation + " to 0", x.add(operation, 0, 0), 0);
            Checks.due(operation + " to 23", x.add(operation, 0, 23), 1);
            Checks.due(operation + " to 24", x.add(operation, 0, 24), -1);
            Checks.due("two were there", x.clear(), 2);
        }
    }

    private static void targetsOfJumpAndZeroAlone() {
        for (int operation = 0; operation <= 12; operation++) {
            boolean jumps = operation == 5 || operation == 6;
            for (int b : new int[] {-1, 24, Integer.MIN_VALUE, Integer.MAX_VALUE}) {
                Checks.due(operation + " with b " + b, new RetoldRun(0).add(operation, 0, b), jumps ? -1 : 0);
                Checks.due(operation + " with a " + b, new RetoldRun(0).add(operation, b, 0), 0);
            }
        }
    }

    private static void addAfterARunThatEnded() {
        RetoldRun x = Checks.with(0, 12, 0, 0);
        Checks.due("run to the end", x.run(100), 1);
        Checks.due("add after the end", x.add(0, 0, 0), -1);
        Checks.due("run after the end", x.run(100), 0);
        Checks.due("add still refused", x.add(0, 0, 0), -1);
        Checks.due("one was there", x.clear(), 1);
        Checks.due("add after clear", x.add(0, 0, 0), 0);
        Checks.due("and one more", x.add(0, 0, 0), 1);
    }

    private static void addAfterARunOfOneInterrupt() {
        RetoldRun x = new RetoldRun(0);
        for (int i = 0; i < 17; i++) {
            x.add(11, 0, 0);
        }
        x.request();
        Checks.due("outside alone begins no run", x.add(11, 0, 0), 17);
        Checks.due("an interrupt", x.run(1), 1);
        Checks.due("a run has begun", x.add(11, 0, 0), -1);
    }

    private static void addAfterRun() {
        RetoldRun x = new RetoldRun(0);
        Checks.due("a refused run", x.run(0), -1);
        Checks.due("a refused run has not begun", x.add(0, 0, 1), 0);
        Checks.due("a refused run", x.run(101), -1);
        Checks.due("a refused run has not begun", x.add(0, 0, 2), 1);
        Checks.due("telling begins no run", x.tell(1, 0), 1);
        Checks.due("a told run has not begun", x.add(0, 0, 3), 2);
        Checks.due("run", x.run(1), 1);
        Checks.due("add in a run", x.add(0, 0, 4), -1);
        Checks.due("three were there", x.clear(), 3);
        Checks.due("add after clear", x.add(0, 0, 5), 0);
        RetoldRun y = new RetoldRun(0);
        Checks.due("a run of no program", y.run(5), 1);
        Checks.due("add after it", y.add(0, 0, 0), -1);
    }

    /** All that a run and the world outside can hold, and then none of it. */
    private static RetoldRun busy() {
        RetoldRun x = Checks.with(9, 7, 0, 0, 8, 1, 0, 9, 2, 0, 4, 0, 2, 10, 2, 0);
        for (int i = 5; i < 16; i++) {
            x.add(0, 3, i);
        }
        x.add(0, 3, 77);
        x.input(5);
        x.input(6);
        x.pass(1000);
        x.run(5);
        x.request();
        x.run(1);
        x.request();
        return x;
    }

    private static void clearAll() {
        RetoldRun x = busy();
        Checks.due("inside before", x.state(0, 7), 1);
        Checks.due("entries before", x.entries(), 3);
        Checks.due("17 instructions", x.clear(), 17);
        dueAsAtFirst("cleared", x);
        Checks.due("the request is gone", x.request(), true);
        Checks.due("the inputs are gone", x.input(1), 1);
        Checks.due("cleared again", x.clear(), 0);
        x.add(8, 0, 0);
        x.add(7, 1, 0);
        x.add(9, 2, 0);
        x.run(3);
        Checks.due("the clock is 0", x.state(0, 0), 0);
        Checks.due("no input waits", x.state(0, 1), 0);
        Checks.due("the lot is the seed", x.state(0, 2), (9 * 1103515245 + 12345) >>> 16);
        Checks.dueLog("nothing from outside", x);
        x.clear();
        x.add(8, 0, 0);
        x.pass(7);
        x.run(1);
        Checks.dueLog("steps and times count from the start", x, 6, 7);
    }

    private static void clearCounts() {
        for (int n : new int[] {0, 1, 23, 24}) {
            RetoldRun x = new RetoldRun(0);
            for (int i = 0; i < n; i++) {
                x.add(0, 0, 0);
            }
            Checks.due("instructions", x.clear(), n);
            Checks.due("and none after it", x.clear(), 0);
            Checks.due("the row begins at 0", x.add(0, 0, 0), 0);
        }
    }

    private static void clearBeforeAnyRun() {
        RetoldRun x = Checks.with(4, 7, 0, 0);
        x.input(1);
        x.pass(9);
        x.request();
        Checks.due("one instruction", x.clear(), 1);
        dueAsAtFirst("cleared before a run", x);
        Checks.due("no request is there", x.request(), true);
        for (int i = 1; i <= 16; i++) {
            Checks.due("there is room for input " + i, x.input(i), i);
        }
        Checks.due("and no more", x.input(17), -1);
    }

    private static void clearAfterTheEnd() {
        RetoldRun x = Checks.with(4, 12, 0, 0);
        x.run(1);
        x.clear();
        dueAsAtFirst("cleared after the end", x);
        x.add(0, 0, 8);
        Checks.due("it has not ended", x.run(1), 1);
        Checks.due("register", x.state(0, 0), 8);
        RetoldRun y = busy();
        Checks.due("inside", y.state(0, 7), 1);
        y.clear();
        for (int i = 0; i < 17; i++) {
            y.add(11, 0, 0);
        }
        y.request();
        y.run(1);
        Checks.due("it was not inside", y.state(0, 4), 16);
        y.run(1);
        Checks.due("back", y.state(0, 4), 0);
    }

    private static void clearOfAFullLog() {
        RetoldRun x = Checks.with(0, 7, 0, 0, 5, 0, 0);
        for (int i = 0; i < 49; i++) {
            x.input(Integer.MIN_VALUE);
            x.run(2);
        }
        Checks.due("full", x.run(1), 0);
        x.change(0, 77);
        x.clear();
        dueAsAtFirst("cleared when full", x);
        x.add(7, 0, 0);
        x.input(3);
        Checks.due("there is room", x.run(1), 1);
        Checks.dueLog("as for a new object", x, 5, 6);
        Checks.due("the seal too", x.seal(), Checks.sealOf(5, 6));
    }

    private static void clearKeepsWhatWasTold() {
        RetoldRun x = busy();
        Checks.due("told", Checks.tellNow(x), 1);
        int[] states = new int[10];
        for (int what = 0; what <= 9; what++) {
            states[what] = x.state(0, what);
        }
        int drawn = x.state(0, 2) & 31;
        Checks.due("a cell was put", x.cell(0, drawn), 5);
        x.clear();
        for (int what = 0; what <= 9; what++) {
            Checks.due("told stays: state 1 " + what, x.state(1, what), states[what]);
        }
        Checks.due("told stays: cell", x.cell(1, drawn), 5);
        Checks.due("telling nothing", x.tell(1, 0), 1);
        Checks.due("now nothing was told", x.state(1, 9), 0);
        Checks.due("and no cell", x.cell(1, drawn), 0);
    }
}
