/** The terms machine and step: what each operation does, and what stays as it was. */
public final class OperationsTest {
    public static void main(String[] args) {
        arithmetic();
        registersFromAbove();
        registersFromAboveInEveryOperation();
        setTakesAllOfB();
        cells();
        cellsFromAbove();
        inWithNoneWaiting();
        jumps();
        lots();
        outputs();
        interrupts();
        ends();
        trace();
        traceOfAllRegisters();
        Checks.finish(OperationsTest.class);
    }

    private static void dueRegisters(String when, RetoldRun x, int... values) {
        for (int i = 0; i < values.length; i++) {
            Checks.due(when + ": register " + i, x.state(0, i), values[i]);
        }
    }

    private static void arithmetic() {
        RetoldRun x = Checks.with(0,
            0, 0, 7, 0, 1, -2, 0, 2, Integer.MAX_VALUE, 0, 3, Integer.MIN_VALUE,
            1, 0, 1, 2, 1, 0, 1, 2, 2, 2, 3, 0, 2, 2, 2);
        Checks.due("SET", x.run(4), 4);
        dueRegisters("SET", x, 7, -2, Integer.MAX_VALUE, Integer.MIN_VALUE);
        x.run(1);
        dueRegisters("ADD", x, 5, -2, Integer.MAX_VALUE, Integer.MIN_VALUE);
        x.run(1);
        dueRegisters("SUB", x, 5, -7, Integer.MAX_VALUE, Integer.MIN_VALUE);
        x.run(1);
        dueRegisters("ADD to itself wraps", x, 5, -7, -2, Integer.MIN_VALUE);
        x.run(1);
        dueRegisters("SUB wraps", x, 5, -7, -2, Integer.MIN_VALUE - 5);
        x.run(1);
        dueRegisters("SUB of itself", x, 5, -7, 0, Integer.MIN_VALUE - 5);
        Checks.due("place", x.state(0, 4), 9);
    }

    private static void registersFromAbove() {
        RetoldRun x = Checks.with(0, 0, 5, -1, 0, -1, 9, 0, -6, 100, 1, Integer.MIN_VALUE, -2, 2, 7, Integer.MAX_VALUE);
        x.run(3);
        dueRegisters("a mod 4", x, 0, -1, 100, 9);
        x.run(1);
        dueRegisters("b mod 4", x, 100, -1, 100, 9);
        x.run(1);
        dueRegisters("both are 3", x, 100, -1, 100, 0);
    }

    /** No two registers hold the same before the instruction comes, and one of them is 0, for ZERO. */
    private static int[] seenAfter(int operation, int a, int b) {
        RetoldRun x = Checks.with(6, 0, 0, 11, 0, 1, 22, 0, 2, 3, 0, 3, 0, 4, 1, 0, 4, 2, 1, 4, 1, 2, 4, 0, 3,
            operation, a, b, 0, 0, 0);
        x.input(71);
        x.pass(72);
        Checks.due("nine steps", x.run(9), 9);
        return Checks.seenOf(x);
    }

    private static void registersFromAboveInEveryOperation() {
        int[] numbers = {-1, -2, -3, -4, -5, 4, 5, 7, Integer.MIN_VALUE, Integer.MIN_VALUE + 1, Integer.MAX_VALUE};
        for (int operation = 0; operation <= 12; operation++) {
            for (int number : numbers) {
                int register = (number % 4 + 4) % 4;
                Checks.dueSame("operation " + operation + " with a " + number,
                    seenAfter(operation, number, 2), seenAfter(operation, register, 2));
                if (operation != 0 && operation != 5 && operation != 6) {
                    Checks.dueSame("operation " + operation + " with b " + number,
                        seenAfter(operation, 2, number), seenAfter(operation, 2, register));
                }
            }
        }
    }

    private static void setTakesAllOfB() {
        for (int b : new int[] {-1, 3, 4, 5, 32, Integer.MIN_VALUE, Integer.MAX_VALUE}) {
            Checks.due("SET to " + b, seenAfter(0, 1, b)[1], b);
        }
    }

    private static void cellsFromAbove() {
        for (int number : new int[] {0, 1, 30, 31, 32, 33, 63, 64, -1, -2, -31, -32, -33, -64, -65,
                Integer.MAX_VALUE, Integer.MIN_VALUE, Integer.MIN_VALUE + 1}) {
            RetoldRun x = Checks.with(0, 0, 0, 77, 0, 1, number, 4, 0, 1, 3, 2, 1);
            x.run(4);
            int cell = (number % 32 + 32) % 32;
            for (int i = 0; i < 32; i++) {
                Checks.due("PUT by " + number + ": cell " + i, x.cell(0, i), i == cell ? 77 : 0);
            }
            Checks.due("GET by " + number, x.state(0, 2), 77);
            RetoldRun y = Checks.with(0, 0, 0, 77, 0, 1, cell, 4, 0, 1, 0, 1, number, 3, 2, 1);
            y.run(5);
            Checks.due("GET by " + number + " from cell " + cell, y.state(0, 2), 77);
        }
    }

    private static void inWithNoneWaiting() {
        RetoldRun x = Checks.with(0, 0, 2, 5, 7, 2, 0, 7, 2, 0);
        x.run(1);
        Checks.due("before", x.state(0, 2), 5);
        x.run(1);
        Checks.due("0 if none waits", x.state(0, 2), 0);
        x.input(6);
        x.run(1);
        Checks.due("the one that waits", x.state(0, 2), 6);
        Checks.dueLog("one entry, of the second IN", x, 13, 12);
        RetoldRun y = Checks.with(0, 7, 0, 0, 7, 1, 0, 0, 2, 5, 7, 2, 0);
        y.input(8);
        y.input(9);
        y.run(4);
        Checks.due("the first of two", y.state(0, 0), 8);
        Checks.due("the second of two", y.state(0, 1), 9);
        Checks.due("no third", y.state(0, 2), 0);
        Checks.due("entries", y.entries(), 2);
    }

    private static void cells() {
        RetoldRun x = Checks.with(0,
            0, 0, 41, 0, 1, 31, 4, 0, 1, 0, 1, -1, 3, 2, 1, 0, 1, 32, 4, 2, 1, 0, 1, Integer.MIN_VALUE + 5, 4, 1, 1,
            3, 3, 2, 4, 0, 2);
        x.run(3);
        Checks.due("PUT into 31", x.cell(0, 31), 41);
        x.run(2);
        Checks.due("GET from -1, which is 31", x.state(0, 2), 41);
        x.run(2);
        Checks.due("PUT into 32, which is 0", x.cell(0, 0), 41);
        x.run(2);
        Checks.due("PUT by a number far below 0", x.cell(0, 5), Integer.MIN_VALUE + 5);
        x.run(1);
        Checks.due("GET from 41, which is 9", x.state(0, 3), 0);
        x.run(1);
        Checks.due("PUT into 41, which is 9", x.cell(0, 9), 41);
        Checks.due("nothing beside it", x.cell(0, 10), 0);
        Checks.due("no end in all this", x.state(0, 8), 0);
    }

    private static void jumps() {
        RetoldRun x = Checks.with(0, 5, 3, 2, 12, 0, 0, 6, 0, 4, 12, 0, 0, 0, 0, 1, 6, 0, 0, 5, 0, 23);
        x.run(1);
        Checks.due("JUMP", x.state(0, 4), 2);
        x.run(1);
        Checks.due("ZERO of 0", x.state(0, 4), 4);
        x.run(2);
        Checks.due("ZERO of 1", x.state(0, 4), 6);
        x.run(1);
        Checks.due("JUMP beyond the program", x.state(0, 4), 23);
        Checks.due("it has not ended yet", x.state(0, 8), 0);
        Checks.due("one step more", x.run(9), 1);
        Checks.due("none is at the place: ended", x.state(0, 8), 1);
        Checks.due("and the place stays", x.state(0, 4), 23);
        RetoldRun y = Checks.with(0, 0, 3, -5, 6, 3, 0, 6, 7, 0, 6, 4, 0);
        y.run(3);
        Checks.due("ZERO of numbers below 0", y.state(0, 4), 3);
        y.run(1);
        Checks.due("ZERO tests r, not s", y.state(0, 4), 0);
    }

    private static void lots() {
        RetoldRun x = Checks.with(-77, 9, 6, 0, 5, 0, 0);
        int lot = -77;
        for (int i = 0; i < 40; i++) {
            x.run(1);
            lot = lot * 1103515245 + 12345;
            Checks.due("DRAW " + i, x.state(0, 2), lot >>> 16);
            Checks.due("without sign", x.state(0, 2) >= 0 && x.state(0, 2) < 65536, true);
            x.run(1);
        }
        Checks.due("no output", x.state(0, 5), 0);
        Checks.dueLog("draws come from inside", x);
    }

    private static void outputs() {
        RetoldRun x = Checks.with(0, 10, 0, 0, 0, 1, 3, 10, 1, 0, 0, 1, -3, 10, 5, 0);
        x.run(1);
        Checks.due("OUT of 0", x.state(0, 5), 0);
        x.run(2);
        Checks.due("OUT of 3", x.state(0, 5), 3 * 16777619);
        x.run(2);
        Checks.due("OUT of -3 wraps", x.state(0, 5), ((3 * 16777619) ^ -3) * 16777619);
    }

    private static RetoldRun padded(int... handler) {
        RetoldRun x = new RetoldRun(0);
        for (int i = 0; i < 15; i++) {
            x.add(1, 0, 1);
        }
        x.add(12, 0, 0);
        for (int i = 0; i < handler.length; i += 3) {
            x.add(handler[i], handler[i + 1], handler[i + 2]);
        }
        return x;
    }

    private static void interrupts() {
        RetoldRun x = padded(0, 3, 8, 11, 0, 0);
        x.run(3);
        x.request();
        x.run(1);
        Checks.due("the interrupt is all of the step", x.state(0, 4), 16);
        Checks.due("nothing was set yet", x.state(0, 3), 0);
        Checks.due("inside", x.state(0, 7), 1);
        x.request();
        x.run(1);
        Checks.due("the handler sets", x.state(0, 3), 8);
        Checks.due("no interrupt while inside", x.state(0, 4), 17);
        x.run(1);
        Checks.due("RETURN to BACK", x.state(0, 4), 3);
        Checks.due("not inside", x.state(0, 7), 0);
        x.run(1);
        Checks.due("the one that waited comes now", x.state(0, 4), 16);
        Checks.dueLog("two interrupts", x, 19, 15);
        RetoldRun z = padded(6, 0, 19, 0, 0, 1, 12, 0, 0, 6, 0, 16, 5, 0, 3, 11, 0, 0);
        z.request();
        z.run(2);
        Checks.due("ZERO inside", z.state(0, 4), 19);
        Checks.due("stays inside", z.state(0, 7), 1);
        RetoldRun y = Checks.with(0, 11, 0, 0, 0, 0, 5);
        y.run(2);
        Checks.due("RETURN outside goes on", y.state(0, 0), 5);
        Checks.due("place", y.state(0, 4), 2);
    }

    private static void ends() {
        RetoldRun x = Checks.with(0, 12, 0, 0, 0, 0, 1);
        Checks.due("END counts", x.run(5), 1);
        Checks.due("ended", x.state(0, 8), 1);
        Checks.due("the place is the next one", x.state(0, 4), 1);
        x.request();
        x.input(1);
        Checks.due("no step any more", x.run(100), 0);
        Checks.due("one step in all", x.state(0, 9), 1);
        Checks.due("nothing was set", x.state(0, 0), 0);
        RetoldRun y = padded(11, 0, 0);
        y.run(16);
        Checks.due("END at 15", y.state(0, 8), 1);
        y.request();
        Checks.due("no interrupt after the end", y.run(1), 0);
        RetoldRun z = padded(5, 0, 23);
        z.request();
        z.run(2);
        z.request();
        Checks.due("inside, none at the place", z.run(7), 1);
        Checks.due("it ends inside", z.state(0, 7), 1);
        RetoldRun w = Checks.with(0, 5, 0, 20);
        for (int i = 1; i < 17; i++) {
            w.add(11, 0, 0);
        }
        w.run(1);
        w.request();
        Checks.due("the interrupt comes before the end", w.run(1), 1);
        Checks.due("at 16", w.state(0, 4), 16);
        Checks.due("back, then ended", w.run(9), 2);
        Checks.due("at 20", w.state(0, 4), 20);
    }

    private static void trace() {
        RetoldRun x = Checks.with(0, 0, 0, 5, 0, 1, 6, 10, 1, 0);
        int h = 0;
        x.run(1);
        h = Checks.traced(h, 1, 5, 0, 0, 0, 0);
        Checks.due("trace 1", x.state(0, 6), h);
        x.run(1);
        h = Checks.traced(h, 2, 5, 6, 0, 0, 0);
        Checks.due("trace 2", x.state(0, 6), h);
        x.run(1);
        h = Checks.traced(h, 3, 5, 6, 0, 0, 6 * 16777619);
        Checks.due("trace 3", x.state(0, 6), h);
        x.run(1);
        h = Checks.traced(h, 3, 5, 6, 0, 0, 6 * 16777619);
        Checks.due("trace of the step without an instruction", x.state(0, 6), h);
        x.run(1);
        Checks.due("no step, no trace", x.state(0, 6), h);
        RetoldRun y = padded(11, 0, 0);
        y.request();
        y.run(1);
        Checks.due("trace of an interrupt", y.state(0, 6), Checks.traced(0, 16, 0, 0, 0, 0, 0));
        RetoldRun z = Checks.with(0, 12, 0, 0);
        z.run(1);
        Checks.due("trace of END", z.state(0, 6), Checks.traced(0, 1, 0, 0, 0, 0, 0));
    }

    private static void traceOfAllRegisters() {
        RetoldRun x = Checks.with(0, 0, 0, 3, 0, 1, -5, 0, 2, 7, 0, 3, -9, 10, 0, 0, 5, 0, 0);
        Checks.due("0 at first", x.state(0, 6), 0);
        x.run(6);
        int h = Checks.traced(0, 1, 3, 0, 0, 0, 0);
        h = Checks.traced(h, 2, 3, -5, 0, 0, 0);
        h = Checks.traced(h, 3, 3, -5, 7, 0, 0);
        h = Checks.traced(h, 4, 3, -5, 7, -9, 0);
        h = Checks.traced(h, 5, 3, -5, 7, -9, 3 * 16777619);
        h = Checks.traced(h, 0, 3, -5, 7, -9, 3 * 16777619);
        Checks.due("place, registers 0 to 3, output", x.state(0, 6), h);
    }
}
