/** An interrupt: "if a request is there, and it is not inside, and there is an instruction 16". */
public final class InterruptTest {
    private static final int RETURN = 11;

    public static void main(String[] args) {
        sixteenInstructions();
        seventeenInstructions();
        twentyFourInstructions();
        noRequest();
        onceForARequest();
        notWhileInside();
        leftByJump();
        beforeTheFirstStep();
        atSixteenOutside();
        beforeThePlaceWithoutInstruction();
        returnOutside();
        backIsTheLatestPlace();
        toldWithSixteenInstructions();
        toldWithSeventeenInstructions();
        toldWhileInside();
        takesTheStepOfAnIn();
        Checks.finish(InterruptTest.class);
    }

    /** Instruction i sets register 0 to 100 + i. */
    private static RetoldRun rowOf(int n) {
        RetoldRun x = new RetoldRun(0);
        for (int i = 0; i < n; i++) {
            Checks.due("add " + i, x.add(0, 0, 100 + i), i);
        }
        return x;
    }

    private static RetoldRun handled(int... handler) {
        RetoldRun x = rowOf(16);
        for (int i = 0; i < handler.length; i += 3) {
            Checks.due("handler", x.add(handler[i], handler[i + 1], handler[i + 2]), 16 + i / 3);
        }
        return x;
    }

    private static void due(String when, RetoldRun x, int place, int inside, int register0) {
        Checks.due(when + ": place", x.state(0, 4), place);
        Checks.due(when + ": inside", x.state(0, 7), inside);
        Checks.due(when + ": register 0", x.state(0, 0), register0);
    }

    private static void sixteenInstructions() {
        RetoldRun x = rowOf(16);
        x.request();
        x.run(1);
        due("no instruction 16", x, 1, 0, 100);
        Checks.due("the request is still there", x.request(), false);
        Checks.due("to the end", x.run(100), 16);
        due("never", x, 16, 0, 115);
        Checks.due("the request is there after all", x.request(), false);
        Checks.dueLog("no entry", x);
        Checks.due("entries", x.entries(), 0);
    }

    private static void seventeenInstructions() {
        RetoldRun x = rowOf(17);
        x.request();
        Checks.due("one step", x.run(1), 1);
        due("there is an instruction 16", x, 16, 1, 0);
        Checks.due("steps", x.state(0, 9), 1);
        Checks.dueLog("an entry", x, 7);
        Checks.due("entries", x.entries(), 1);
        Checks.due("the request is gone", x.request(), true);
        Checks.due("the instruction itself is the next step", x.run(1), 1);
        due("done", x, 17, 1, 116);
    }

    private static void twentyFourInstructions() {
        RetoldRun x = rowOf(24);
        x.run(5);
        x.request();
        x.run(1);
        due("at 16", x, 16, 1, 104);
    }

    private static void noRequest() {
        RetoldRun x = rowOf(24);
        x.run(1);
        due("without a request", x, 1, 0, 100);
        x.run(23);
        due("never", x, 24, 0, 123);
        Checks.dueLog("no entry", x);
    }

    private static void onceForARequest() {
        RetoldRun x = handled(RETURN, 0, 0);
        x.run(1);
        x.request();
        x.run(2);
        due("and back", x, 1, 0, 100);
        x.run(2);
        due("the program goes on", x, 3, 0, 102);
        Checks.due("one entry", x.entries(), 1);
    }

    private static void notWhileInside() {
        RetoldRun x = handled(0, 1, 1, 0, 2, 2, RETURN, 0, 0);
        x.run(4);
        x.request();
        x.run(1);
        Checks.due("a second request", x.request(), true);
        x.run(1);
        due("inside", x, 17, 1, 103);
        x.run(1);
        due("inside still", x, 18, 1, 103);
        Checks.due("it waits", x.request(), false);
        x.run(1);
        due("returned", x, 4, 0, 103);
        Checks.due("one entry so far", x.entries(), 1);
        x.run(1);
        due("outside it comes", x, 16, 1, 103);
        Checks.dueLog("steps 5 and 9", x, 23, 19);
        x.run(3);
        due("returned to the same place", x, 4, 0, 103);
    }

    private static void leftByJump() {
        RetoldRun x = handled(5, 0, 3);
        x.request();
        x.run(2);
        due("JUMP leaves it inside", x, 3, 1, 0);
        x.request();
        x.run(1);
        due("no interrupt there", x, 4, 1, 103);
        Checks.due("the request waits", x.request(), false);
        Checks.due("to the end of the row", x.run(12), 12);
        due("up to the handler", x, 16, 1, 115);
        Checks.due("one entry", x.entries(), 1);
    }

    private static void beforeTheFirstStep() {
        RetoldRun x = handled(RETURN, 0, 0);
        x.request();
        x.run(2);
        due("back to 0", x, 0, 0, 0);
        x.run(1);
        due("the first instruction", x, 1, 0, 100);
        Checks.dueLog("in step 1", x, 7);
    }

    private static void atSixteenOutside() {
        RetoldRun x = handled(0, 1, 6, RETURN, 0, 0);
        x.run(16);
        due("reached by itself", x, 16, 0, 115);
        x.run(1);
        due("done by itself", x, 17, 0, 115);
        Checks.due("register 1", x.state(0, 1), 6);
        x.run(1);
        due("RETURN goes on", x, 18, 0, 115);
        RetoldRun y = handled(0, 1, 6, RETURN, 0, 0);
        y.run(16);
        y.request();
        y.run(1);
        due("an interrupt at 16", y, 16, 1, 115);
        Checks.due("is a step of its own", y.state(0, 1), 0);
        y.run(2);
        due("back to 16", y, 16, 0, 115);
    }

    private static void beforeThePlaceWithoutInstruction() {
        RetoldRun x = Checks.with(0, 5, 0, 23);
        for (int i = 1; i < 17; i++) {
            x.add(RETURN, 0, 0);
        }
        x.run(1);
        x.request();
        Checks.due("the interrupt", x.run(1), 1);
        due("comes first", x, 16, 1, 0);
        Checks.due("not ended", x.state(0, 8), 0);
        Checks.due("back, and the end", x.run(100), 2);
        due("ended at", x, 23, 0, 0);
        Checks.due("ended", x.state(0, 8), 1);
    }

    private static void returnOutside() {
        RetoldRun x = Checks.with(0, 0, 0, 1, RETURN, 0, 0, 0, 0, 3);
        x.run(2);
        due("RETURN outside", x, 2, 0, 1);
        x.run(1);
        due("goes on", x, 3, 0, 3);
        RetoldRun y = Checks.with(0, 0, 0, 1, 0, 0, 2, RETURN, 0, 0, 0, 0, 4);
        for (int i = 4; i < 17; i++) {
            y.add(RETURN, 0, 0);
        }
        y.run(1);
        y.request();
        y.run(2);
        due("back at 1", y, 1, 0, 1);
        y.run(2);
        due("RETURN outside does not go to BACK again", y, 3, 0, 2);
    }

    private static void backIsTheLatestPlace() {
        RetoldRun x = handled(RETURN, 0, 0);
        for (int place : new int[] {2, 5, 15}) {
            x.run(place - x.state(0, 4));
            x.request();
            x.run(1);
            due("away from " + place, x, 16, 1, 99 + place);
            x.run(1);
            due("back to " + place, x, place, 0, 99 + place);
        }
    }

    private static RetoldRun withTwoBytes(int instructions) {
        RetoldRun x = Checks.with(0, 7, 1, 0);
        for (int i = 1; i < instructions; i++) {
            x.add(0, 0, 100 + i);
        }
        x.input(0);
        x.run(4);
        Checks.dueLog("an input of 0", x, 5, 0);
        return x;
    }

    private static void toldWithSixteenInstructions() {
        RetoldRun x = withTwoBytes(16);
        Checks.write(x, 11, 7);
        Checks.due("no instruction 16: the entries do nothing", Checks.tellNow(x), 1);
        Checks.due("place", x.state(1, 4), 4);
        Checks.due("not inside", x.state(1, 7), 0);
    }

    private static void toldWithSeventeenInstructions() {
        RetoldRun x = withTwoBytes(17);
        Checks.write(x, 11, 127);
        Checks.due("an instruction 16: the first entry is used", Checks.tellNow(x), 0);
        Checks.due("one, 16, 17 and ended", x.state(1, 4), 17);
        Checks.due("inside", x.state(1, 7), 1);
        Checks.due("register 0", x.state(1, 0), 116);
        Checks.due("ended", x.state(1, 8), 1);
    }

    private static void toldWhileInside() {
        RetoldRun x = handled(0, 1, 1, 0, 2, 2, RETURN, 0, 0);
        x.request();
        x.run(4);
        x.request();
        x.run(4);
        Checks.dueLog("in steps 1 and 5", x, 7, 19);
        for (int head : new int[] {7, 11, 15}) {
            x.change(1, head);
            Checks.due("inside in step " + (1 + head / 4), Checks.tellNow(x), 0);
            Checks.due("it does nothing, then or later", x.state(1, 4), 4);
            Checks.due("not inside", x.state(1, 7), 0);
        }
        x.change(1, 19);
        Checks.due("outside in step 5", Checks.tellNow(x), 1);
        x.change(1, 23);
        Checks.due("outside in step 6", Checks.tellNow(x), 0);
        Checks.due("it is used", x.state(1, 4), 18);
    }

    private static void takesTheStepOfAnIn() {
        RetoldRun x = Checks.with(0, 7, 0, 0, 7, 1, 0);
        for (int i = 2; i < 17; i++) {
            x.add(RETURN, 0, 0);
        }
        x.input(8);
        x.input(9);
        x.request();
        x.run(1);
        Checks.due("no input is taken in its step", x.state(0, 0), 0);
        Checks.due("both wait", x.input(10), 3);
        x.run(3);
        Checks.dueLog("interrupt, IN, IN", x, 7, 9, 16, 5, 18);
        Checks.due("register 0", x.state(0, 0), 8);
        Checks.due("register 1", x.state(0, 1), 9);
        Checks.due("told", Checks.tellNow(x), 1);
    }
}
