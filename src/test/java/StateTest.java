/** Promises 14 (state) and 15 (cell). */
public final class StateTest {
    private static final int[] FAR = {-1, -2, Integer.MIN_VALUE, Integer.MAX_VALUE};

    public static void main(String[] args) {
        RetoldRun x = full();
        dueRun(x);
        dueNothingElse(x);
        dueTold(x);
        dueNothingElse(x);
        allZeroIfTellingWasRefused();
        Checks.finish(StateTest.class);
    }

    /** Every state is something else than 0 at its end, and cells 0 and 31 too. */
    private static RetoldRun full() {
        RetoldRun x = Checks.with(0, 0, 0, 11, 4, 0, 1, 0, 1, 31, 0, 2, 22, 4, 2, 1, 0, 3, 44, 10, 3, 0);
        for (int i = 7; i < 16; i++) {
            x.add(5, 0, 7);
        }
        x.add(12, 0, 0);
        x.run(7);
        x.request();
        Checks.due("an interrupt and the end", x.run(9), 2);
        return x;
    }

    private static void dueRun(RetoldRun x) {
        int[] known = {11, 31, 22, 44, 17, 44 * 16777619};
        for (int what = 0; what < known.length; what++) {
            Checks.due("state 0 " + what, x.state(0, what), known[what]);
        }
        Checks.due("inside", x.state(0, 7), 1);
        Checks.due("ended", x.state(0, 8), 1);
        Checks.due("steps", x.state(0, 9), 9);
        Checks.due("cell 0", x.cell(0, 0), 11);
        Checks.due("cell 31", x.cell(0, 31), 22);
        for (int i = 1; i < 31; i++) {
            Checks.due("cell " + i, x.cell(0, i), 0);
        }
        for (int what = 0; what <= 9; what++) {
            Checks.due("nothing was told: state 1 " + what, x.state(1, what), 0);
        }
        for (int i = 0; i < 32; i++) {
            Checks.due("nothing was told: cell 1 " + i, x.cell(1, i), 0);
        }
    }

    private static void dueNothingElse(RetoldRun x) {
        for (int far : FAR) {
            for (int i = 0; i < 10; i++) {
                Checks.due("state " + far + " " + i, x.state(far, i), 0);
            }
            for (int which = 0; which < 2; which++) {
                Checks.due("state " + which + " " + far, x.state(which, far), 0);
                Checks.due("cell " + which + " " + far, x.cell(which, far), 0);
            }
            Checks.due("cell " + far + " 0", x.cell(far, 0), 0);
            Checks.due("cell " + far + " 31", x.cell(far, 31), 0);
        }
        for (int which = 0; which < 2; which++) {
            Checks.due("state " + which + " 10", x.state(which, 10), 0);
            Checks.due("cell " + which + " 32", x.cell(which, 32), 0);
        }
        Checks.due("state 2 0", x.state(2, 0), 0);
        Checks.due("cell 2 0", x.cell(2, 0), 0);
    }

    private static void allZeroIfTellingWasRefused() {
        RetoldRun x = Checks.with(0, 7, 0, 0, 4, 0, 1, 10, 0, 0);
        x.input(7);
        x.run(3);
        Checks.due("another seal", x.tell(0, 2), -1);
        x.change(0, 4);
        Checks.due("not readable", Checks.tellNow(x), -2);
        for (int what = 0; what <= 9; what++) {
            Checks.due("nothing was told: state 1 " + what, x.state(1, what), 0);
        }
        for (int i = 0; i < 32; i++) {
            Checks.due("nothing was told: cell 1 " + i, x.cell(1, i), 0);
        }
        x.change(0, 5);
        Checks.due("told", Checks.tellNow(x), 1);
        Checks.due("now something was", x.state(1, 0), 7);
        Checks.due("and its cell", x.cell(1, 0), 7);
    }

    private static void dueTold(RetoldRun x) {
        Checks.due("told", x.tell(x.seal(), x.log()), 1);
        for (int what = 0; what <= 9; what++) {
            Checks.due("state 1 " + what, x.state(1, what), x.state(0, what));
        }
        Checks.due("told cell 0", x.cell(1, 0), 11);
        Checks.due("told cell 31", x.cell(1, 31), 22);
        x.clear();
        Checks.due("the run is gone", x.state(0, 0), 0);
        Checks.due("its cells too", x.cell(0, 31), 0);
        Checks.due("what was told is not", x.state(1, 0), 11);
        Checks.due("nor its cells", x.cell(1, 31), 22);
    }
}
