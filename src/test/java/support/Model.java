import java.util.ArrayDeque;
import java.util.ArrayList;
import java.util.HashMap;
import java.util.List;
import java.util.Map;

/**
 * The document once more, written for plainness and not for the rules of the language:
 * entries are kept as a list and the log is made and read as a whole.
 */
final class Model {
    record Instruction(int operation, int a, int b) { }

    record Entry(long step, int kind, int value) { }

    static final class State {
        final int[] registers = new int[4];
        final int[] cells = new int[32];
        int place;
        int back;
        boolean inside;
        boolean ended;
        int lot;
        int output;
        int trace;
        int steps;
        int time;

        int[] shown() {
            int[] all = new int[42];
            System.arraycopy(registers, 0, all, 0, 4);
            all[4] = place;
            all[5] = output;
            all[6] = trace;
            all[7] = inside ? 1 : 0;
            all[8] = ended ? 1 : 0;
            all[9] = steps;
            System.arraycopy(cells, 0, all, 10, 32);
            return all;
        }
    }

    final int seed;
    List<Instruction> program = new ArrayList<>();
    ArrayDeque<Integer> inputs = new ArrayDeque<>();
    boolean request;
    int clock;
    boolean begun;
    State live;
    State told = new State();
    List<Entry> made = new ArrayList<>();
    List<Integer> asMade = new ArrayList<>();
    List<Integer> bytes = new ArrayList<>();

    Model(int seed) {
        this.seed = seed;
        live = fresh();
    }

    private State fresh() {
        State s = new State();
        s.lot = seed;
        return s;
    }

    int add(int operation, int a, int b) {
        if (begun || program.size() == 24 || operation < 0 || operation > 12) {
            return -1;
        }
        if ((operation == 5 || operation == 6) && (b < 0 || b > 23)) {
            return -1;
        }
        program.add(new Instruction(operation, a, b));
        return program.size() - 1;
    }

    int clear() {
        int n = program.size();
        program.clear();
        inputs.clear();
        request = false;
        clock = 0;
        begun = false;
        live = fresh();
        made.clear();
        asMade.clear();
        bytes.clear();
        return n;
    }

    int input(int v) {
        if (inputs.size() == 16) {
            return -1;
        }
        inputs.addLast(v);
        return inputs.size();
    }

    boolean request() {
        boolean taken = !request;
        request = true;
        return taken;
    }

    boolean pass(int n) {
        boolean taken = n >= 1 && n <= 1000000;
        clock += taken ? n : 0;
        return taken;
    }

    int run(int n) {
        if (n < 1 || n > 100) {
            return -1;
        }
        begun = true;
        int done = 0;
        while (done < n && !live.ended && bytes.size() <= 290) {
            step(live, null);
            done++;
        }
        return done;
    }

    /** With entries null the run goes on and is recorded, else it is told again from them. */
    private void step(State m, Map<Long, Entry> entries) {
        m.steps++;
        Entry entry = entries == null ? null : entries.get((long) m.steps);
        boolean asked = entries == null ? request : entry != null && entry.kind == 3;
        if (asked && !m.inside && program.size() > 16) {
            if (entries == null) {
                request = false;
                record(3, 0);
            }
            m.back = m.place;
            m.place = 16;
            m.inside = true;
        } else if (m.place >= program.size()) {
            m.ended = true;
        } else {
            Instruction now = program.get(m.place++);
            int r = Math.floorMod(now.a, 4);
            int s = Math.floorMod(now.b, 4);
            int c = Math.floorMod(m.registers[s], 32);
            switch (now.operation) {
                case 0 -> m.registers[r] = now.b;
                case 1 -> m.registers[r] = m.registers[r] + m.registers[s];
                case 2 -> m.registers[r] = m.registers[r] - m.registers[s];
                case 3 -> m.registers[r] = m.cells[c];
                case 4 -> m.cells[c] = m.registers[r];
                case 5 -> m.place = now.b;
                case 6 -> m.place = m.registers[r] == 0 ? now.b : m.place;
                case 7 -> m.registers[r] = in(entries != null, entry);
                case 8 -> m.registers[r] = time(m, entries != null, entry);
                case 9 -> {
                    m.lot = m.lot * 1103515245 + 12345;
                    m.registers[r] = m.lot >>> 16;
                }
                case 10 -> m.output = (m.output ^ m.registers[r]) * 16777619;
                case 11 -> {
                    m.place = m.inside ? m.back : m.place;
                    m.inside = false;
                }
                default -> m.ended = true;
            }
        }
        for (int x : new int[] {m.place, m.registers[0], m.registers[1], m.registers[2], m.registers[3], m.output}) {
            m.trace = (m.trace ^ x) * 16777619;
        }
    }

    private int in(boolean telling, Entry entry) {
        if (telling) {
            if (entry == null || entry.kind != 1) {
                return 0;
            }
            long n = Integer.toUnsignedLong(entry.value);
            return (int) (n % 2 == 0 ? n / 2 : -(n + 1) / 2);
        }
        if (inputs.isEmpty()) {
            return 0;
        }
        int v = inputs.removeFirst();
        record(1, (int) (v >= 0 ? 2L * v : -2L * v - 1));
        return v;
    }

    private int time(State m, boolean telling, Entry entry) {
        if (telling) {
            m.time += entry != null && entry.kind == 2 ? entry.value : 0;
        } else if (clock != m.time) {
            record(2, clock - m.time);
            m.time = clock;
        }
        return m.time;
    }

    private void record(int kind, int value) {
        long before = made.isEmpty() ? 0 : made.get(made.size() - 1).step;
        made.add(new Entry(live.steps, kind, value));
        List<Integer> more = new ArrayList<>();
        write(more, 4 * (live.steps - before) + kind);
        if (kind != 3) {
            write(more, Integer.toUnsignedLong(value));
        }
        asMade.addAll(more);
        bytes.addAll(more);
    }

    private static void write(List<Integer> row, long number) {
        long rest = number;
        while (rest > 127) {
            row.add((int) (rest % 128) + 128);
            rest /= 128;
        }
        row.add((int) rest);
    }

    int at(int i) {
        return i >= 0 && i < bytes.size() ? bytes.get(i) : -1;
    }

    static int sealOf(List<Integer> row) {
        return Checks.sealOf(row.stream().mapToInt(Integer::intValue).toArray());
    }

    boolean change(int i, int v) {
        boolean taken = i >= 0 && i < bytes.size() && v >= 0 && v <= 255;
        if (taken) {
            bytes.set(i, v);
        }
        return taken;
    }

    int tell(int s, int n) {
        if (sealOf(bytes) != s || bytes.size() != n) {
            return -1;
        }
        Map<Long, Entry> entries = parse();
        if (entries == null) {
            return -2;
        }
        told = fresh();
        while (told.steps < live.steps && !told.ended) {
            step(told, entries);
        }
        return java.util.Arrays.equals(told.shown(), live.shown()) ? 1 : 0;
    }

    /** Null if the log cannot be read. */
    private Map<Long, Entry> parse() {
        List<Long> numbers = new ArrayList<>();
        long number = 0;
        int length = 0;
        for (int x : bytes) {
            number += (long) (x % 128) << (7 * length);
            length++;
            if (x < 128) {
                numbers.add(number & 0xFFFFFFFFL);
                number = 0;
                length = 0;
            } else if (length == 5) {
                return null;
            }
        }
        if (length != 0) {
            return null;
        }
        Map<Long, Entry> entries = new HashMap<>();
        long step = 0;
        for (int i = 0; i < numbers.size(); i++) {
            int kind = (int) (numbers.get(i) % 4);
            long d = numbers.get(i) / 4;
            if (kind == 0 || d == 0 || kind != 3 && i + 1 == numbers.size()) {
                return null;
            }
            step += d;
            entries.put(step, new Entry(step, kind, kind == 3 ? 0 : numbers.get(++i).intValue()));
        }
        return entries;
    }

    int sealed(int h, int word, int n) {
        if (n < 1 || n > 4) {
            return 0;
        }
        byte[] row = java.nio.ByteBuffer.allocate(4).putInt(word).array();
        int seal = h;
        for (int i = 4 - n; i < 4; i++) {
            seal = (seal ^ (row[i] & 255)) * 16777619;
            seal = seal ^ (seal >>> 13);
        }
        return seal;
    }
}
