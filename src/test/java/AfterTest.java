import java.util.Map;
import java.util.TreeMap;
import java.util.function.Consumer;
import java.util.function.Function;
import java.util.function.Supplier;

/**
 * Each call after every other: what it changes for the calls behind it, and that it changes nothing else. Every call
 * is asked of an object of its own, once with and once without the call before it.
 */
public final class AfterTest {
    private static final int PRIME = 16777619;
    private static final int[] LOG = {5, 10, 6, 3};

    /** The answers that are due; those of one object are those of another but for some. */
    private static final class Due {
        private final Map<String, int[]> answers = new TreeMap<>();

        Due but(String call, int... answer) {
            Due other = new Due();
            other.answers.putAll(answers);
            other.answers.put(call, answer);
            return other;
        }
    }

    private static final Map<String, Function<RetoldRun, int[]>> CALLS = new TreeMap<>();

    public static void main(String[] args) {
        calls();
        beforeTheRun();
        inTheRun();
        afterTheEnd();
        withAFullLog();
        Checks.finish(AfterTest.class);
    }

    private static int[] row(int... answer) {
        return answer;
    }

    private static int asInt(boolean b) {
        return b ? 1 : 0;
    }

    private static void calls() {
        CALLS.put("add", x -> row(x.add(12, 0, 0)));
        CALLS.put("clear", x -> row(x.clear()));
        CALLS.put("input", x -> row(x.input(4)));
        CALLS.put("request", x -> row(asInt(x.request())));
        CALLS.put("pass", x -> row(asInt(x.pass(9))));
        CALLS.put("run", x -> row(x.run(3)));
        CALLS.put("what run writes", AfterTest::written);
        CALLS.put("log", x -> row(x.log()));
        CALLS.put("at", x -> row(x.at(0), x.at(1)));
        CALLS.put("entries", x -> row(x.entries()));
        CALLS.put("seal", x -> row(x.seal()));
        CALLS.put("change", x -> row(asInt(x.change(1, 12))));
        CALLS.put("tell of four bytes", x -> row(x.tell(Checks.sealOf(LOG), 4)));
        CALLS.put("tell of no byte", x -> row(x.tell(1, 0)));
        CALLS.put("tell of the bytes as they are", x -> row(Checks.tellNow(x)));
        CALLS.put("state of the run", x -> states(x, 0, 0, 4, 5, 8, 9));
        CALLS.put("state of what was told", x -> states(x, 1, 0, 4, 5, 9));
        CALLS.put("cell of the run", x -> row(x.cell(0, 3)));
        CALLS.put("cell of what was told", x -> row(x.cell(1, 3)));
        CALLS.put("sealed", x -> row(x.sealed(1, 0, 1)));
    }

    private static int[] states(RetoldRun x, int which, int... whats) {
        int[] answers = new int[whats.length];
        for (int i = 0; i < whats.length; i++) {
            answers[i] = x.state(which, whats[i]);
        }
        return answers;
    }

    /** What came from outside is seen when steps take it. */
    private static int[] written(RetoldRun x) {
        x.run(3);
        int first = Math.max(0, x.log() - 8);
        int[] last = new int[x.log() - first];
        for (int i = 0; i < last.length; i++) {
            last[i] = x.at(first + i);
        }
        return last;
    }

    private static void dueAll(String when, Supplier<RetoldRun> made, Consumer<RetoldRun> before, Due due) {
        Checks.due(when + ": every call has its answer", due.answers.keySet().equals(CALLS.keySet()), true);
        for (String call : CALLS.keySet()) {
            RetoldRun x = made.get();
            before.accept(x);
            Checks.dueSame(call + " " + when, CALLS.get(call).apply(x), due.answers.get(call));
        }
    }

    /** The calls that only ask leave all as it is, whatever they are asked. */
    private static void dueAfterQuestions(String when, Supplier<RetoldRun> made, Due usual) {
        dueAll(when, made, x -> { }, usual);
        dueAll(when + ", after log", made, RetoldRun::log, usual);
        dueAll(when + ", after at", made, x -> x.at(0), usual);
        dueAll(when + ", after at of none", made, x -> x.at(-1), usual);
        dueAll(when + ", after entries", made, RetoldRun::entries, usual);
        dueAll(when + ", after seal", made, RetoldRun::seal, usual);
        dueAll(when + ", after state", made, x -> x.state(0, 9), usual);
        dueAll(when + ", after state as told", made, x -> x.state(1, 9), usual);
        dueAll(when + ", after cell", made, x -> x.cell(0, 3), usual);
        dueAll(when + ", after cell as told", made, x -> x.cell(1, 3), usual);
        dueAll(when + ", after sealed", made, x -> x.sealed(5, 6, 4), usual);
        dueAll(when + ", after a tell of another seal", made, x -> x.tell(77, x.log()), usual);
    }

    /** A loop of IN, TIME, PUT, OUT and JUMP, and a RETURN at 16. */
    private static RetoldRun program() {
        RetoldRun x = Checks.with(0, 7, 0, 0, 8, 1, 0, 4, 0, 1, 10, 0, 0, 5, 0, 0);
        for (int i = 5; i < 16; i++) {
            x.add(12, 0, 0);
        }
        x.add(11, 0, 0);
        return x;
    }

    private static Due nothingYet() {
        return new Due().but("add", 17).but("clear", 17).but("input", 1).but("request", 1).but("pass", 1)
            .but("run", 3).but("what run writes").but("log", 0).but("at", -1, -1).but("entries", 0).but("seal", 1)
            .but("change", 0).but("tell of four bytes", -1).but("tell of no byte", 1)
            .but("tell of the bytes as they are", 1).but("state of the run", 0, 0, 0, 0, 0)
            .but("state of what was told", 0, 0, 0, 0).but("cell of the run", 0).but("cell of what was told", 0)
            .but("sealed", 16779667);
    }

    private static void beforeTheRun() {
        Supplier<RetoldRun> made = AfterTest::program;
        Due usual = nothingYet();
        dueAfterQuestions("before the run", made, usual);
        dueAll("after add", made, x -> x.add(0, 0, 0), usual.but("add", 18).but("clear", 18));
        dueAll("after clear", made, RetoldRun::clear, usual.but("add", 0).but("clear", 0).but("run", 1));
        dueAll("after input", made, x -> x.input(6), usual.but("input", 2).but("what run writes", 5, 12));
        dueAll("after request", made, RetoldRun::request, usual.but("request", 0).but("what run writes", 7));
        dueAll("after pass", made, x -> x.pass(7), usual.but("what run writes", 10, 7));
        dueAll("after run", made, x -> x.run(3), usual.but("add", -1).but("state of the run", 0, 3, 0, 0, 3));
        dueAll("after change of no byte", made, x -> x.change(0, 9), usual);
        dueAll("after tell", made, x -> x.tell(1, 0), usual);
        dueAll("after a refused add", made, x -> x.add(5, 0, 24), usual);
        dueAll("after a refused run", made, x -> x.run(0), usual);
        dueAll("after a refused pass", made, x -> x.pass(0), usual);
    }

    /** One round, told after its third step. */
    private static RetoldRun going() {
        RetoldRun x = program();
        x.input(5);
        x.pass(3);
        x.run(3);
        Checks.due("told in the third step", Checks.tellNow(x), 1);
        x.run(2);
        return x;
    }

    private static Due oneRound() {
        return nothingYet().but("add", -1).but("what run writes", LOG).but("log", 4).but("at", 5, 10)
            .but("entries", 2).but("seal", Checks.sealOf(LOG)).but("change", 1).but("tell of four bytes", 1)
            .but("tell of no byte", -1).but("state of the run", 5, 0, 5 * PRIME, 0, 5)
            .but("state of what was told", 5, 3, 0, 3).but("cell of the run", 5).but("cell of what was told", 5);
    }

    /** What was told last stays, all else is as for a new object without a program. */
    private static Due cleared(Due before) {
        Due told = nothingYet().but("add", 0).but("clear", 0).but("run", 1);
        return told.but("state of what was told", before.answers.get("state of what was told"))
            .but("cell of what was told", before.answers.get("cell of what was told"));
    }

    private static void inTheRun() {
        Supplier<RetoldRun> made = AfterTest::going;
        Due usual = oneRound();
        dueAfterQuestions("in the run", made, usual);
        dueAll("after a refused add", made, x -> x.add(0, 0, 0), usual);
        dueAll("after clear", made, RetoldRun::clear, cleared(usual));
        dueAll("after input", made, x -> x.input(6),
            usual.but("input", 2).but("what run writes", 5, 10, 6, 3, 17, 12));
        dueAll("after request", made, RetoldRun::request,
            usual.but("request", 0).but("what run writes", 5, 10, 6, 3, 19));
        dueAll("after pass", made, x -> x.pass(7), usual.but("what run writes", 5, 10, 6, 3, 22, 7));
        dueAll("after run", made, x -> x.run(3),
            usual.but("state of the run", 0, 3, 5 * PRIME, 0, 8).but("cell of the run", 0));
        dueAll("after change of an input", made, x -> x.change(1, 12),
            usual.but("what run writes", 5, 12, 6, 3).but("at", 5, 12).but("tell of four bytes", -1)
                .but("tell of the bytes as they are", 0));
        dueAll("after change of a kind", made, x -> x.change(0, 4),
            usual.but("what run writes", 4, 10, 6, 3).but("at", 4, 10).but("tell of four bytes", -1)
                .but("tell of the bytes as they are", -2));
        dueAll("after change and change back", made, x -> {
            x.change(1, 12);
            x.change(1, 10);
        }, usual);
        dueAll("after tell", made, x -> x.tell(x.seal(), x.log()),
            usual.but("state of what was told", 5, 0, 5 * PRIME, 5));
        dueAll("after a refused run", made, x -> x.run(101), usual);
        dueAll("after a refused change", made, x -> x.change(0, 256), usual);
        afterATellOfAChangedLog(made, usual);
        besideOthers(made, usual);
    }

    private static void afterATellOfAChangedLog(Supplier<RetoldRun> made, Due usual) {
        dueAll("after a tell of a changed log", made, x -> {
            x.change(1, 14);
            Checks.due("told otherwise", Checks.tellNow(x), 0);
            x.change(1, 10);
        }, usual.but("state of what was told", 7, 0, 7 * PRIME, 5).but("cell of what was told", 7));
        dueAll("after a tell that cannot be read", made, x -> {
            x.change(0, 0);
            Checks.due("not told", Checks.tellNow(x), -2);
            x.change(0, 5);
        }, usual);
    }

    /** What is done to one object is nothing to another. */
    private static void besideOthers(Supplier<RetoldRun> made, Due usual) {
        dueAll("after calls of other objects", made, x -> {
            full().change(0, 9);
            Checks.tellNow(ended());
            program().input(6);
            program().request();
            program().pass(7);
            going().clear();
        }, usual);
    }

    private static RetoldRun ended() {
        RetoldRun x = Checks.with(0, 7, 0, 0, 8, 1, 0, 4, 0, 1, 12, 0, 0);
        x.input(5);
        x.pass(3);
        x.run(100);
        return x;
    }

    private static void afterTheEnd() {
        Supplier<RetoldRun> made = AfterTest::ended;
        Due usual = oneRound().but("clear", 4).but("run", 0).but("state of the run", 5, 4, 0, 1, 4)
            .but("state of what was told", 0, 0, 0, 0).but("cell of what was told", 0);
        dueAfterQuestions("after the end", made, usual);
        dueAll("after run", made, x -> x.run(100), usual);
        dueAll("after input", made, x -> x.input(6), usual.but("input", 2));
        dueAll("after request", made, RetoldRun::request, usual.but("request", 0));
        dueAll("after pass", made, x -> x.pass(7), usual);
        dueAll("after clear", made, RetoldRun::clear, cleared(usual));
        dueAll("after tell", made, x -> x.tell(x.seal(), x.log()),
            usual.but("state of what was told", 5, 4, 0, 4).but("cell of what was told", 5));
    }

    /** 49 rounds of an input of five bytes, and the run stands behind the last IN. */
    private static RetoldRun full() {
        RetoldRun x = Checks.with(0, 7, 0, 0, 5, 0, 0);
        for (int i = 0; i < 49; i++) {
            x.input(Integer.MIN_VALUE);
            x.run(i < 48 ? 2 : 1);
        }
        return x;
    }

    private static void withAFullLog() {
        Supplier<RetoldRun> made = AfterTest::full;
        int[] last = {255, 15, 9, 255, 255, 255, 255, 15};
        Due usual = nothingYet().but("add", -1).but("clear", 2).but("run", 0).but("what run writes", last)
            .but("log", 294).but("at", 5, 255).but("entries", 49).but("seal", Checks.sealOf(Checks.bytesOf(full())))
            .but("change", 1).but("tell of no byte", -1)
            .but("state of the run", Integer.MIN_VALUE, 1, 0, 0, 97);
        dueAll("with a full log", made, x -> { }, usual);
        dueAll("after run", made, x -> x.run(100), usual);
        dueAll("after input", made, x -> x.input(6), usual.but("input", 2));
        dueAll("after request", made, RetoldRun::request, usual.but("request", 0));
        dueAll("after pass", made, x -> x.pass(7), usual);
        dueAll("after change of the first byte", made, x -> x.change(0, 9),
            usual.but("at", 9, 255).but("tell of the bytes as they are", 0));
        dueAll("after clear", made, RetoldRun::clear, cleared(usual));
        dueAll("after tell", made, x -> x.tell(x.seal(), 294),
            usual.but("state of what was told", Integer.MIN_VALUE, 1, 0, 97));
    }
}
