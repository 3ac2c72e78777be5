/**
 * Promise 13: "1 if all that state and cell tell of it is as for the run, 0 if not". A log from outside tells of a run
 * that differs in one of them alone: its second input is worked out so that the trace comes together again.
 */
public final class AlikeTest {
    private static final int PRIME = 16777619;
    private static final int INVERSE = inverse();
    private static final int CELL = 10;

    public static void main(String[] args) {
        registers();
        place();
        output();
        trace();
        inside();
        ended();
        steps();
        cells();
        Checks.finish(AlikeTest.class);
    }

    private static int inverse() {
        int found = PRIME;
        for (int i = 0; i < 5; i++) {
            found *= 2 - PRIME * found;
        }
        return found;
    }

    /** What goes into the trace after a step, in the document's order. */
    private static int[] tracedNow(RetoldRun x) {
        return new int[] {x.state(0, 4), x.state(0, 0), x.state(0, 1), x.state(0, 2), x.state(0, 3), x.state(0, 5)};
    }

    /** The trace before numbers from this one on went into it. */
    private static int undone(int trace, int[] numbers, int from) {
        int h = trace;
        for (int i = numbers.length - 1; i >= from; i--) {
            h = h * INVERSE ^ numbers[i];
        }
        return h;
    }

    /** The input, for the register, by which a run whose first input is 0 comes to have the trace in the end. */
    private static int secondInput(int[] program, int register, int before, int after, int trace) {
        RetoldRun y = Checks.with(0, program);
        y.input(0);
        y.run(before);
        int h = y.state(0, 6);
        y.run(1);
        int[] numbers = tracedNow(y);
        int[][] later = new int[after][];
        for (int i = 0; i < after; i++) {
            y.run(1);
            later[i] = tracedNow(y);
        }
        int wanted = trace;
        for (int i = after - 1; i >= 0; i--) {
            wanted = undone(wanted, later[i], 0);
        }
        for (int i = 0; i <= register; i++) {
            h = (h ^ numbers[i]) * PRIME;
        }
        return undone(wanted, numbers, register + 2) * INVERSE ^ h;
    }

    private static void writeInput(RetoldRun x, int at, int v) {
        int number = v >= 0 ? 2 * v : -2 * v - 1;
        for (int i = 0; i < 5; i++) {
            x.change(at + i, number >>> 7 * i & 127 | (i < 4 ? 128 : 0));
        }
    }

    private static void dueAlone(String what, int alone, RetoldRun x) {
        Checks.due(what + " alone is not as for the run", Checks.tellNow(x), 0);
        for (int i = 0; i < 10; i++) {
            Checks.due(what + ": state " + i + " differs", x.state(1, i) != x.state(0, i), i == alone);
        }
        for (int i = 0; i < 32; i++) {
            Checks.due(what + ": cell " + i + " differs", x.cell(1, i) != x.cell(0, i), CELL + i == alone);
        }
    }

    /**
     * The run takes two inputs. As told, the first is 0, and the second, for the register, comes after this many
     * steps and has this many behind it.
     */
    private static void dueAlone(
            String what, int alone, int[] program, int steps, int register, int before, int after) {
        RetoldRun x = Checks.with(0, program);
        x.input(Integer.MIN_VALUE);
        x.input(Integer.MIN_VALUE);
        Checks.due(what + ": steps", x.run(steps), steps);
        Checks.due(what + ": two inputs of six bytes", x.log(), 12);
        Checks.due(what + ": told as it is", Checks.tellNow(x), 1);
        int first = x.at(0) / 4;
        writeInput(x, 1, 0);
        x.change(6, 4 * (before + 1 - first) + 1);
        writeInput(x, 7, secondInput(program, register, before, after, x.state(0, 6)));
        dueAlone(what, alone, x);
    }

    private static void registers() {
        for (int r = 0; r < 4; r++) {
            int other = r == 0 ? 1 : 0;
            dueAlone("register " + r, r, new int[] {7, r, 0, 7, other, 0, 0, other, 0}, 3, other, 1, 1);
        }
    }

    /** By way of 2 to 5 in the run, by way of 8 to 11 as told. */
    private static final int[] TWO_WAYS = {
        7, 1, 0, 6, 1, 8, 0, 1, 0, 7, 0, 0, 0, 0, 0, 12, 0, 0, 11, 0, 0, 11, 0, 0,
        0, 1, 0, 7, 0, 0, 0, 0, 0, 5, 0, 6
    };

    private static void place() {
        dueAlone("the place", 4, TWO_WAYS, 5, 0, 3, 1);
    }

    private static void output() {
        dueAlone("the output", 5, new int[] {7, 1, 0, 10, 1, 0, 0, 1, 0, 7, 0, 0, 0, 0, 0}, 5, 0, 3, 1);
    }

    private static void trace() {
        RetoldRun x = Checks.with(0, 7, 0, 0, 0, 0, 0);
        x.input(1);
        x.run(2);
        x.change(1, 4);
        dueAlone("the trace", 6, x);
    }

    /** An interrupt and a JUMP both lead to 16, but one of them alone leads inside. */
    private static void inside() {
        RetoldRun x = new RetoldRun(0);
        for (int i = 0; i < 17; i++) {
            x.add(5, 0, 16);
        }
        x.request();
        x.run(1);
        Checks.dueLog("in step 1", x, 7);
        x.change(0, 11);
        dueAlone("inside", 7, x);
    }

    private static void ended() {
        dueAlone("ended", 8, TWO_WAYS, 6, 0, 3, 2);
    }

    /** Instruction 2 changes nothing and is left out as told. */
    private static void steps() {
        int[] program = {7, 1, 0, 6, 1, 3, 0, 2, 0, 0, 1, 0, 7, 0, 0, 0, 0, 0, 12, 0, 0};
        dueAlone("how many steps", 9, program, 7, 0, 3, 2);
    }

    private static void cells() {
        for (int c = 0; c < 32; c++) {
            int[] program = {0, 1, c, 7, 0, 0, 4, 0, 1, 7, 0, 0, 0, 0, 0};
            dueAlone("cell " + c, CELL + c, program, 5, 0, 3, 1);
        }
    }
}
