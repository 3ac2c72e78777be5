import java.util.ArrayList;
import java.util.List;
import java.util.function.Supplier;

/** "A call that is refused changes nothing.": an object with refused calls answers as its twin without them. */
public final class RefusedTest {
    private interface Call {
        long on(RetoldRun x);
    }

    public static void main(String[] args) {
        addBeforeTheRun();
        addToAFullProgram();
        addInARun();
        seventeenthInput();
        secondRequest();
        passes();
        runs();
        changes();
        tellsWithAnotherSeal();
        tellsThatCannotBeRead();
        questions();
        Checks.finish(RefusedTest.class);
    }

    private static final int[] PROGRAM = {
        7, 0, 0, 10, 0, 0, 8, 1, 0, 9, 2, 0, 4, 0, 2, 5, 0, 0, 12, 0, 0, 12, 0, 0, 12, 0, 0, 12, 0, 0, 12, 0, 0,
        12, 0, 0, 12, 0, 0, 12, 0, 0, 12, 0, 0, 12, 0, 0, 1, 3, 1, 11, 0, 0
    };

    private static RetoldRun written() {
        RetoldRun x = Checks.with(77, 7, 0, 0, 8, 1, 0, 5, 0, 0);
        x.input(300);
        x.pass(70);
        return x;
    }

    private static RetoldRun full() {
        RetoldRun x = Checks.with(77, PROGRAM);
        for (int i = 18; i < 24; i++) {
            x.add(11, 0, 0);
        }
        x.input(300);
        return x;
    }

    /** In the midst of a run, told at an earlier step, with inputs and time that no step has taken yet. */
    private static RetoldRun going() {
        RetoldRun x = Checks.with(77, PROGRAM);
        x.input(300);
        x.pass(70);
        x.request();
        x.run(7);
        Checks.tellNow(x);
        x.run(4);
        x.input(5);
        x.input(-6);
        x.pass(1000);
        return x;
    }

    private static RetoldRun crowded() {
        RetoldRun x = going();
        for (int i = 2; i < 16; i++) {
            x.input(i);
        }
        x.request();
        return x;
    }

    private static RetoldRun ended() {
        RetoldRun x = Checks.with(77, 7, 0, 0, 12, 0, 0);
        x.input(300);
        x.input(301);
        x.run(9);
        return x;
    }

    private static RetoldRun unreadable() {
        RetoldRun x = going();
        x.change(0, 4);
        return x;
    }

    private static int asInt(boolean b) {
        return b ? 1 : 0;
    }

    /** What the other calls answer from here on, those that change the object among them. */
    private static int[] afterwards(RetoldRun x) {
        List<Integer> answers = new ArrayList<>();
        answers.add(x.add(0, 1, 5));
        answers.add(x.input(4));
        answers.add(asInt(x.request()));
        answers.add(asInt(x.pass(9)));
        answers.add(x.run(30));
        answers.add(Checks.tellNow(x));
        for (int seen : Checks.seenOf(x)) {
            answers.add(seen);
        }
        answers.add(asInt(x.change(0, 9)));
        answers.add(Checks.tellNow(x));
        answers.add(x.state(1, 6));
        answers.add(x.clear());
        answers.add(x.add(9, 0, 0));
        answers.add(x.input(1));
        answers.add(asInt(x.request()));
        answers.add(x.run(1));
        answers.add(x.state(0, 0));
        return answers.stream().mapToInt(Integer::intValue).toArray();
    }

    private static void dueRefused(String what, Supplier<RetoldRun> made, long answer, Call call) {
        RetoldRun x = made.get();
        int[] before = Checks.seenOf(x);
        Checks.due(what, call.on(x), answer);
        Checks.due(what + ", again", call.on(x), answer);
        Checks.dueSame(what + ": what can be seen", Checks.seenOf(x), before);
        Checks.dueSame(what + ": what comes afterwards", afterwards(x), afterwards(made.get()));
    }

    private static void addBeforeTheRun() {
        for (int operation : new int[] {-1, 13, Integer.MIN_VALUE, Integer.MAX_VALUE}) {
            dueRefused("operation " + operation, RefusedTest::written, -1, x -> x.add(operation, 1, 1));
        }
        for (int b : new int[] {-1, 24}) {
            dueRefused("JUMP to " + b, RefusedTest::written, -1, x -> x.add(5, 0, b));
            dueRefused("ZERO to " + b, RefusedTest::written, -1, x -> x.add(6, 0, b));
        }
    }

    private static void addToAFullProgram() {
        dueRefused("the 25th instruction", RefusedTest::full, -1, x -> x.add(0, 3, 99));
        dueRefused("the 25th instruction, of no operation", RefusedTest::full, -1, x -> x.add(13, 3, 99));
    }

    private static void addInARun() {
        dueRefused("add in a run", RefusedTest::going, -1, x -> x.add(12, 0, 0));
        dueRefused("add after the end", RefusedTest::ended, -1, x -> x.add(0, 0, 0));
        dueRefused("a wrong add in a run", RefusedTest::going, -1, x -> x.add(5, 0, 24));
    }

    private static void seventeenthInput() {
        dueRefused("the 17th input", RefusedTest::crowded, -1, x -> x.input(12345));
    }

    private static void secondRequest() {
        dueRefused("a second request", RefusedTest::crowded, 0, x -> asInt(x.request()));
    }

    private static void passes() {
        for (int n : new int[] {0, -1, 1000001, Integer.MIN_VALUE, Integer.MAX_VALUE}) {
            dueRefused("pass " + n, RefusedTest::written, 0, x -> asInt(x.pass(n)));
            dueRefused("pass " + n + " in a run", RefusedTest::going, 0, x -> asInt(x.pass(n)));
        }
    }

    private static void runs() {
        for (int n : new int[] {0, -1, 101, Integer.MIN_VALUE, Integer.MAX_VALUE}) {
            dueRefused("a run not begun by " + n, RefusedTest::written, -1, x -> x.run(n));
            dueRefused("a run not gone on by " + n, RefusedTest::crowded, -1, x -> x.run(n));
            dueRefused("a run that has ended, by " + n, RefusedTest::ended, -1, x -> x.run(n));
        }
    }

    private static void changes() {
        for (int i : new int[] {-1, 299, 300, Integer.MIN_VALUE, Integer.MAX_VALUE}) {
            dueRefused("change of byte " + i, RefusedTest::going, 0, x -> asInt(x.change(i, 1)));
        }
        dueRefused("change behind the last", RefusedTest::going, 0, x -> asInt(x.change(x.log(), 1)));
        dueRefused("change of no log", RefusedTest::written, 0, x -> asInt(x.change(0, 1)));
        for (int v : new int[] {-1, 256, Integer.MIN_VALUE, Integer.MAX_VALUE}) {
            dueRefused("change to " + v, RefusedTest::going, 0, x -> asInt(x.change(1, v)));
        }
    }

    private static void tellsWithAnotherSeal() {
        dueRefused("another seal", RefusedTest::going, -1, x -> x.tell(x.seal() + 1, x.log()));
        dueRefused("one byte less", RefusedTest::going, -1, x -> x.tell(x.seal(), x.log() - 1));
        dueRefused("one byte more", RefusedTest::going, -1, x -> x.tell(x.seal(), x.log() + 1));
        dueRefused("a changed log", RefusedTest::unreadable, -1, x -> x.tell(x.seal(), x.log()));
        dueRefused("before the run", RefusedTest::written, -1, x -> x.tell(0, 0));
    }

    private static void tellsThatCannotBeRead() {
        dueRefused("not readable", RefusedTest::unreadable, -2, Checks::tellNow);
    }

    private static void questions() {
        dueRefused("at", RefusedTest::going, -1, x -> x.at(x.log()));
        dueRefused("at below", RefusedTest::going, -1, x -> x.at(-1));
        dueRefused("state of none", RefusedTest::going, 0, x -> x.state(2, 9));
        dueRefused("state of nothing", RefusedTest::going, 0, x -> x.state(0, 10));
        dueRefused("cell of none", RefusedTest::going, 0, x -> x.cell(2, 0));
        dueRefused("no cell", RefusedTest::going, 0, x -> x.cell(0, 32));
        dueRefused("sealed of 0 bytes", RefusedTest::going, 0, x -> x.sealed(1, 1, 0));
        dueRefused("sealed of 5 bytes", RefusedTest::going, 0, x -> x.sealed(1, 1, 5));
    }
}
