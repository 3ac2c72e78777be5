/** Promises 4 (input), 5 (request) and 6 (pass). */
public final class OutsideTest {
    public static void main(String[] args) {
        inputsWaitInOrder();
        sixteenInputs();
        roomForAsManyAsWereTaken();
        requests();
        requestWaits();
        requestAfterTheEnd();
        clock();
        refusedPasses();
        Checks.finish(OutsideTest.class);
    }

    private static void inputsWaitInOrder() {
        RetoldRun x = Checks.with(0, 7, 0, 0, 7, 1, 0, 7, 2, 0, 7, 3, 0);
        Checks.due("first", x.input(11), 1);
        Checks.due("second", x.input(-12), 2);
        Checks.due("third", x.input(Integer.MIN_VALUE), 3);
        x.run(2);
        Checks.due("two are taken", x.input(14), 2);
        x.run(2);
        Checks.due("register 0", x.state(0, 0), 11);
        Checks.due("register 1", x.state(0, 1), -12);
        Checks.due("register 2", x.state(0, 2), Integer.MIN_VALUE);
        Checks.due("register 3", x.state(0, 3), 14);
        Checks.due("none waits", x.input(15), 1);
    }

    private static void sixteenInputs() {
        RetoldRun x = Checks.with(0, 7, 0, 0, 10, 0, 0, 5, 0, 0);
        for (int i = 1; i <= 16; i++) {
            Checks.due("input " + i, x.input(i * 100), i);
        }
        Checks.due("the seventeenth", x.input(9999), -1);
        Checks.due("the eighteenth", x.input(0), -1);
        x.run(1);
        Checks.due("one place is free", x.input(1700), 16);
        Checks.due("and then none", x.input(1800), -1);
        int output = 0;
        for (int i = 1; i <= 17; i++) {
            x.run(i == 1 ? 1 : 2);
            output = (output ^ (i * 100)) * 16777619;
            Checks.due("output after input " + i, x.state(0, 5), output);
            x.run(1);
        }
        x.run(1);
        Checks.due("no more", x.state(0, 0), 0);
        Checks.due("entries", x.entries(), 17);
    }

    private static void roomForAsManyAsWereTaken() {
        RetoldRun x = Checks.with(0, 7, 0, 0, 5, 0, 0);
        for (int i = 1; i <= 16; i++) {
            x.input(i);
        }
        x.run(5);
        Checks.due("three were taken", x.state(0, 0), 3);
        Checks.due("the first of three", x.input(17), 14);
        Checks.due("the second", x.input(18), 15);
        Checks.due("the third", x.input(19), 16);
        Checks.due("no fourth", x.input(20), -1);
        x.run(33);
        Checks.due("all came, the last one last", x.state(0, 0), 19);
        Checks.due("19 entries", x.entries(), 19);
        x.run(2);
        Checks.due("the refused one never", x.state(0, 0), 0);
    }

    private static void requestAfterTheEnd() {
        RetoldRun x = Checks.with(0, 12, 0, 0);
        x.run(1);
        Checks.due("a request after the end", x.request(), true);
        x.run(1);
        Checks.due("is there for good", x.request(), false);
    }

    private static RetoldRun withHandler(int handler) {
        RetoldRun x = new RetoldRun(0);
        for (int i = 0; i < 16; i++) {
            x.add(0, 0, i + 100);
        }
        x.add(handler, 1, 1);
        return x;
    }

    private static void requests() {
        RetoldRun x = withHandler(11);
        Checks.due("a request", x.request(), true);
        Checks.due("one is there", x.request(), false);
        Checks.due("one is still there", x.request(), false);
        x.run(1);
        Checks.due("inside", x.state(0, 7), 1);
        Checks.due("place 16", x.state(0, 4), 16);
        Checks.due("it is gone: one more", x.request(), true);
        Checks.due("one is there again", x.request(), false);
        Checks.due("entries", x.entries(), 1);
    }

    private static void requestWaits() {
        RetoldRun x = withHandler(0);
        x.request();
        x.run(1);
        x.request();
        x.run(1);
        Checks.due("inside, the handler goes on", x.state(0, 1), 1);
        Checks.due("the request waits", x.request(), false);
        Checks.due("one entry", x.entries(), 1);
        RetoldRun y = Checks.with(0, 0, 0, 5);
        y.request();
        y.run(1);
        Checks.due("no instruction 16: the program goes on", y.state(0, 0), 5);
        Checks.due("no instruction 16: the request waits", y.request(), false);
        Checks.due("no instruction 16: not inside", y.state(0, 7), 0);
        Checks.dueLog("no instruction 16", y);
    }

    private static void clock() {
        RetoldRun x = Checks.with(0, 8, 0, 0, 8, 1, 0, 5, 0, 0);
        Checks.due("least", x.pass(1), true);
        Checks.due("most", x.pass(1000000), true);
        x.run(3);
        Checks.due("the clock", x.state(0, 0), 1000001);
        Checks.due("steps leave it alone", x.state(0, 1), 1000001);
        x.pass(25);
        x.run(3);
        Checks.due("it grows", x.state(0, 0), 1000026);
        Checks.due("telling leaves it alone", Checks.tellNow(x), 1);
        x.run(1);
        Checks.due("the same clock", x.state(0, 0), 1000026);
    }

    private static void refusedPasses() {
        RetoldRun x = Checks.with(0, 8, 0, 0);
        for (int n : new int[] {0, -1, 1000001, Integer.MAX_VALUE, Integer.MIN_VALUE}) {
            Checks.due("pass(" + n + ")", x.pass(n), false);
        }
        x.run(1);
        Checks.due("the clock has not moved", x.state(0, 0), 0);
        Checks.dueLog("no entry", x);
    }
}
