import java.util.List;
import java.util.Random;

/** Long mixed runs of calls, each answer held against a second writing of the document. */
public final class ModelTest {
    private static final int OBJECTS = 3000;
    private static final int[] EDGES = {
        0, 1, -1, 2, 15, 16, 17, 23, 24, 31, 32, 63, 64, -64, -65, 100, 101, 127, 128, 255, 256, 1000000, 1000001,
        Integer.MAX_VALUE, Integer.MIN_VALUE
    };

    private final Random random;
    private final RetoldRun x;
    private final Model model;
    private int calls = 0;

    private ModelTest(int number) {
        random = new Random(number);
        int seed = random.nextInt();
        x = new RetoldRun(seed);
        model = new Model(seed);
    }

    public static void main(String[] args) {
        int[] answers = new int[4];
        for (int i = 0; i < OBJECTS; i++) {
            new ModelTest(i).play(answers);
        }
        for (int i = 0; i < answers.length; i++) {
            Checks.due("tells that answered " + (i - 2) + " were many", answers[i] > 1000, true);
        }
        Checks.finish(ModelTest.class);
    }

    private void play(int[] answers) {
        // A program and the last states still come after this many: the document promises 512 calls, not more.
        int length = 40 + random.nextInt(430);
        while (calls < length) {
            if (!model.begun && random.nextInt(3) > 0) {
                program();
            }
            one(answers);
        }
        for (int what = -1; what <= 10; what++) {
            state(random.nextInt(2), what);
        }
    }

    private int edge() {
        return EDGES[random.nextInt(EDGES.length)];
    }

    private int any() {
        return random.nextBoolean() ? edge() : random.nextInt(200) - 100;
    }

    private void due(String call, long got, long want) {
        calls++;
        Checks.due("call " + calls + ", " + call, got, want);
    }

    private void due(String call, boolean got, boolean want) {
        due(call, got ? 1 : 0, want ? 1 : 0);
    }

    private void program() {
        int length = random.nextBoolean() ? 17 + random.nextInt(9) : random.nextInt(25);
        for (int i = 0; i < length; i++) {
            int operation = random.nextInt(60) == 0 ? any() : random.nextInt(12);
            int target = random.nextInt(8) == 0 ? any() : random.nextInt(Math.max(1, length - 1));
            // Loops that take from outside keep a run going, so that there is something to record.
            if (random.nextInt(3) == 0) {
                operation = 7 + random.nextInt(2);
            }
            int a = any();
            due("add(" + operation + ", " + a + ", " + target + ")",
                x.add(operation, a, target), model.add(operation, a, target));
        }
    }

    private void one(int[] answers) {
        switch (random.nextInt(20)) {
            case 0, 1, 2 -> {
                int v = random.nextBoolean() ? any() : random.nextInt();
                due("input(" + v + ")", x.input(v), model.input(v));
            }
            case 3 -> due("request()", x.request(), model.request());
            case 4 -> {
                int n = random.nextBoolean() ? any() : 1 + random.nextInt(1000000);
                due("pass(" + n + ")", x.pass(n), model.pass(n));
            }
            case 5, 6, 7 -> {
                int n = random.nextInt(8) == 0 ? any() : 1 + random.nextInt(random.nextBoolean() ? 100 : 8);
                due("run(" + n + ")", x.run(n), model.run(n));
            }
            case 8 -> due("log()", x.log(), model.bytes.size());
            case 9 -> {
                int i = random.nextBoolean() ? any() : random.nextInt(model.bytes.size() + 1);
                due("at(" + i + ")", x.at(i), model.at(i));
            }
            case 10 -> due("entries()", x.entries(), model.made.size());
            case 11 -> due("seal()", x.seal(), Model.sealOf(model.asMade));
            case 12 -> change();
            case 13, 14, 15 -> tell(answers);
            case 16 -> state(random.nextInt(4) - 1, random.nextInt(14) - 2);
            case 17 -> cell();
            case 18 -> {
                int h = random.nextInt();
                int word = random.nextInt();
                int n = random.nextInt(7) - 1;
                due("sealed(" + h + ", " + word + ", " + n + ")", x.sealed(h, word, n), model.sealed(h, word, n));
            }
            default -> {
                if (random.nextInt(4) == 0) {
                    due("clear()", x.clear(), model.clear());
                }
            }
        }
    }

    private void change() {
        int i = random.nextInt(6) == 0 ? any() : random.nextInt(model.bytes.size() + 1);
        int v = random.nextInt(6) == 0 ? any() : random.nextInt(256);
        if (random.nextInt(3) == 0 && i >= 0 && i < model.bytes.size()) {
            v = model.bytes.get(i) ^ (4 << random.nextInt(5));
        }
        due("change(" + i + ", " + v + ")", x.change(i, v), model.change(i, v));
    }

    private void tell(int[] answers) {
        List<Integer> row = random.nextInt(4) == 0 ? model.asMade : model.bytes;
        int s = Model.sealOf(row);
        int n = random.nextInt(10) == 0 ? any() : row.size();
        int got = x.tell(s, n);
        due("tell(" + s + ", " + n + ")", got, model.tell(s, n));
        if (got >= -2 && got <= 1) {
            answers[got + 2]++;
        }
        state(1, 6);
        state(1, 9);
    }

    private void state(int which, int what) {
        boolean is = (which == 0 || which == 1) && what >= 0 && what <= 9;
        int want = is ? (which == 0 ? model.live : model.told).shown()[what] : 0;
        due("state(" + which + ", " + what + ")", x.state(which, what), want);
    }

    private void cell() {
        int which = random.nextInt(4) - 1;
        int i = random.nextInt(6) == 0 ? any() : random.nextInt(34) - 1;
        boolean is = (which == 0 || which == 1) && i >= 0 && i <= 31;
        int want = is ? (which == 0 ? model.live : model.told).cells[i] : 0;
        due("cell(" + which + ", " + i + ")", x.cell(which, i), want);
    }
}
