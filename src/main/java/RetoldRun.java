import java.util.Arrays;

/** A small machine whose runs are recorded in a sealed log and can be told again from it. */
public final class RetoldRun {

    private static final int MOST_INSTRUCTIONS = 24;
    private static final int MOST_INPUTS = 16;
    private static final int MOST_PASSED = 1000000;
    private static final int MOST_STEPS_A_CALL = 100;
    private static final int REGISTERS = 4;
    private static final int CELLS = 32;
    private static final int STATES = 10;
    private static final int INTERRUPT_PLACE = 16;

    private static final int LOG_ROOM = 300;
    /** An entry takes ten bytes at most, so a step that begins with this many stays in the room. */
    private static final int LOG_FULL = 290;
    private static final int GROUPS = 5;

    private static final int KIND_IN = 1;
    private static final int KIND_TIME = 2;
    private static final int KIND_INTERRUPT = 3;

    private static final int SET = 0;
    private static final int ADD = 1;
    private static final int SUB = 2;
    private static final int GET = 3;
    private static final int PUT = 4;
    private static final int JUMP = 5;
    private static final int ZERO = 6;
    private static final int IN = 7;
    private static final int TIME = 8;
    private static final int DRAW = 9;
    private static final int OUT = 10;
    private static final int RETURN = 11;
    private static final int END = 12;

    private static final int PRIME = 16777619;
    private static final int FIRST_SEAL = 1;

    private final int seed;
    private final Program program;
    private final Journal journal;
    private final Recording recording;
    private final Retelling retelling;
    private final Machine live;
    private final Machine told;
    private boolean begun;

    public RetoldRun(int seed) {
        this.seed = seed;
        program = new Program();
        journal = new Journal();
        recording = new Recording(journal);
        retelling = new Retelling(new JournalReader(journal));
        live = new Machine(seed);
        told = new Machine(seed);
        begun = false;
    }

    public int add(int operation, int a, int b) {
        if (begun || !isInstruction(operation, b)) {
            return -1;
        }
        return program.append(operation, a, b);
    }

    public int clear() {
        int gone = program.size;
        program.size = 0;
        live.restart(seed);
        journal.restart();
        recording.restart();
        begun = false;
        return gone;
    }

    public int input(int v) {
        return recording.addInput(v);
    }

    public boolean request() {
        if (recording.requested) {
            return false;
        }
        recording.requested = true;
        return true;
    }

    public boolean pass(int n) {
        if (n < 1 || n > MOST_PASSED) {
            return false;
        }
        recording.clock += n;
        return true;
    }

    public int run(int n) {
        if (n < 1 || n > MOST_STEPS_A_CALL) {
            return -1;
        }
        begun = true;
        int done = 0;
        for (int i = 0; i < n; i++) {
            if (journal.size > LOG_FULL || !live.step(program, recording)) {
                break;
            }
            done++;
        }
        return done;
    }

    public int log() {
        return journal.size;
    }

    public int at(int i) {
        return journal.has(i) ? journal.bytes[i] : -1;
    }

    public int entries() {
        return journal.made;
    }

    public int seal() {
        return journal.sealMade;
    }

    public boolean change(int i, int v) {
        if (!journal.has(i) || v < 0 || v > 255) {
            return false;
        }
        journal.bytes[i] = v;
        return true;
    }

    public int tell(int s, int n) {
        if (n != journal.size || s != journal.sealNow()) {
            return -1;
        }
        if (!retelling.isReadable()) {
            return -2;
        }
        told.restart(seed);
        retelling.restart();
        for (int i = 0; i < live.steps; i++) {
            if (!told.step(program, retelling)) {
                break;
            }
        }
        return told.looksLike(live) ? 1 : 0;
    }

    public int state(int which, int what) {
        Machine machine = machineOf(which);
        return machine == null ? 0 : machine.stateOf(what);
    }

    public int cell(int which, int i) {
        Machine machine = machineOf(which);
        return machine == null ? 0 : machine.cellOf(i);
    }

    public int sealed(int h, int word, int n) {
        if (n < 1 || n > 4) {
            return 0;
        }
        int result = h;
        for (int i = n - 1; i >= 0; i--) {
            result = sealByte(result, (word >>> (8 * i)) & 255);
        }
        return result;
    }

    private Machine machineOf(int which) {
        if (which == 0) {
            return live;
        }
        return which == 1 ? told : null;
    }

    private static boolean isInstruction(int operation, int b) {
        if (operation < SET || operation > END) {
            return false;
        }
        boolean jumps = operation == JUMP || operation == ZERO;
        return !jumps || (b >= 0 && b < MOST_INSTRUCTIONS);
    }

    private static int mix(int h, int x) {
        return (h ^ x) * PRIME;
    }

    private static int sealByte(int h, int x) {
        int mixed = mix(h, x);
        return mixed ^ (mixed >>> 13);
    }

    /** The row of instructions. */
    private static final class Program {
        final int[] operations = new int[MOST_INSTRUCTIONS];
        final int[] firsts = new int[MOST_INSTRUCTIONS];
        final int[] seconds = new int[MOST_INSTRUCTIONS];
        int size;

        boolean has(int place) {
            return place >= 0 && place < size;
        }

        /** The number of the new instruction, or -1 if the row is full. */
        int append(int operation, int a, int b) {
            if (size >= MOST_INSTRUCTIONS) {
                return -1;
            }
            operations[size] = operation;
            firsts[size] = a;
            seconds[size] = b;
            size++;
            return size - 1;
        }
    }

    /** What a machine asks of the world beyond it, each time with the number of the step that asks. */
    private abstract static class Outside {
        abstract boolean takeInterrupt(int step);

        abstract int takeInput(int step);

        abstract int readClock(int step);
    }

    /** The world as it is during a run: what it gives is written down. */
    private static final class Recording extends Outside {
        private final Journal journal;
        private final int[] inputs = new int[MOST_INPUTS];
        private int waiting;
        private int timeBefore;
        boolean requested;
        int clock;

        Recording(Journal journal) {
            this.journal = journal;
        }

        void restart() {
            waiting = 0;
            timeBefore = 0;
            requested = false;
            clock = 0;
        }

        int addInput(int v) {
            if (waiting >= MOST_INPUTS) {
                return -1;
            }
            inputs[waiting] = v;
            waiting++;
            return waiting;
        }

        boolean takeInterrupt(int step) {
            if (!requested) {
                return false;
            }
            requested = false;
            journal.beginEntry(step, KIND_INTERRUPT);
            return true;
        }

        int takeInput(int step) {
            if (waiting == 0) {
                return 0;
            }
            int v = inputs[0];
            waiting--;
            System.arraycopy(inputs, 1, inputs, 0, waiting);
            journal.beginEntry(step, KIND_IN);
            journal.writeNumber(v >= 0 ? 2 * v : -2 * v - 1);
            return v;
        }

        int readClock(int step) {
            if (clock != timeBefore) {
                journal.beginEntry(step, KIND_TIME);
                journal.writeNumber(clock - timeBefore);
                timeBefore = clock;
            }
            return clock;
        }
    }

    /** The world as the log has it. */
    private static final class Retelling extends Outside {
        private final JournalReader reader;
        private int timeBefore;

        Retelling(JournalReader reader) {
            this.reader = reader;
        }

        boolean isReadable() {
            reader.rewind();
            for (int i = 0; i < LOG_ROOM && reader.present; i++) {
                reader.readEntry();
            }
            return !reader.broken;
        }

        void restart() {
            timeBefore = 0;
            reader.rewind();
        }

        boolean takeInterrupt(int step) {
            return hasEntry(step, KIND_INTERRUPT);
        }

        int takeInput(int step) {
            if (!hasEntry(step, KIND_IN)) {
                return 0;
            }
            int number = reader.value;
            return (number & 1) == 0 ? number >>> 1 : -(number >>> 1) - 1;
        }

        int readClock(int step) {
            if (hasEntry(step, KIND_TIME)) {
                timeBefore += reader.value;
            }
            return timeBefore;
        }

        private boolean hasEntry(int step, int kind) {
            for (int i = 0; i < LOG_ROOM && reader.present && reader.step < step; i++) {
                reader.readEntry();
            }
            return reader.present && reader.step == step && reader.kind == kind;
        }
    }

    /** The log as it is written. */
    private static final class Journal {
        final int[] bytes = new int[LOG_ROOM];
        int size;
        int made;
        /** Kept as the bytes are written: a later change from outside must not reach it. */
        int sealMade = FIRST_SEAL;
        private int stepBefore;

        void restart() {
            size = 0;
            made = 0;
            sealMade = FIRST_SEAL;
            stepBefore = 0;
        }

        boolean has(int i) {
            return i >= 0 && i < size;
        }

        void beginEntry(int step, int kind) {
            writeNumber(4 * (step - stepBefore) + kind);
            stepBefore = step;
            made++;
        }

        void writeNumber(int number) {
            int rest = number;
            for (int i = 0; i < GROUPS && size < LOG_ROOM; i++) {
                int group = rest & 127;
                rest >>>= 7;
                int x = rest == 0 ? group : group | 128;
                bytes[size] = x;
                size++;
                sealMade = sealByte(sealMade, x);
                if (rest == 0) {
                    break;
                }
            }
        }

        int sealNow() {
            int h = FIRST_SEAL;
            for (int i = 0; i < size; i++) {
                h = sealByte(h, bytes[i]);
            }
            return h;
        }
    }

    /** Goes through the log as it is now, entry by entry. */
    private static final class JournalReader {
        private final Journal journal;
        private int position;
        boolean present;
        boolean broken;
        /** A changed log can name steps far beyond an int, and those must not wrap round to real ones. */
        long step;
        int kind;
        int value;

        JournalReader(Journal journal) {
            this.journal = journal;
        }

        void rewind() {
            position = 0;
            step = 0;
            broken = false;
            readEntry();
        }

        void readEntry() {
            present = false;
            if (broken || !journal.has(position)) {
                return;
            }
            int head = readNumber();
            int distance = head >>> 2;
            kind = head & 3;
            value = kind == KIND_IN || kind == KIND_TIME ? readNumber() : 0;
            step += distance;
            if (kind == 0 || distance == 0) {
                broken = true;
            }
            present = !broken;
        }

        private int readNumber() {
            int number = 0;
            for (int i = 0; i < GROUPS && journal.has(position); i++) {
                int x = journal.bytes[position];
                position++;
                number |= (x & 127) << (7 * i);
                if (x < 128) {
                    return number;
                }
            }
            broken = true;
            return 0;
        }
    }

    /** Registers, cells and all else that a step changes inside. */
    private static final class Machine {
        private final int[] registers = new int[REGISTERS];
        private final int[] cells = new int[CELLS];
        private int place;
        private int back;
        private boolean inside;
        private boolean ended;
        private int lot;
        private int output;
        private int trace;
        int steps;

        Machine(int seed) {
            lot = seed;
        }

        void restart(int seed) {
            Arrays.fill(registers, 0);
            Arrays.fill(cells, 0);
            place = 0;
            back = 0;
            inside = false;
            ended = false;
            lot = seed;
            output = 0;
            trace = 0;
            steps = 0;
        }

        /** Whether it was a step: an ended machine does none. */
        boolean step(Program program, Outside outside) {
            if (ended) {
                return false;
            }
            steps++;
            if (!inside && program.has(INTERRUPT_PLACE) && outside.takeInterrupt(steps)) {
                back = place;
                place = INTERRUPT_PLACE;
                inside = true;
            } else if (program.has(place)) {
                int now = place;
                place++;
                perform(program.operations[now], program.firsts[now], program.seconds[now], outside);
            } else {
                ended = true;
            }
            followTrace();
            return true;
        }

        private void perform(int operation, int a, int b, Outside outside) {
            // A mask takes the remainder by a power of two, with numbers below 0 counted from above.
            int r = a & (REGISTERS - 1);
            int other = registers[b & (REGISTERS - 1)];
            switch (operation) {
                case SET:
                    registers[r] = b;
                    break;
                case ADD:
                    registers[r] += other;
                    break;
                case SUB:
                    registers[r] -= other;
                    break;
                case GET:
                    registers[r] = cells[other & (CELLS - 1)];
                    break;
                case PUT:
                    cells[other & (CELLS - 1)] = registers[r];
                    break;
                case IN:
                    registers[r] = outside.takeInput(steps);
                    break;
                case TIME:
                    registers[r] = outside.readClock(steps);
                    break;
                case DRAW:
                    lot = lot * 1103515245 + 12345;
                    registers[r] = lot >>> 16;
                    break;
                case OUT:
                    output = mix(output, registers[r]);
                    break;
                default:
                    turn(operation, registers[r], b);
                    break;
            }
        }

        /** The operations that say where to go on, or that nothing does. */
        private void turn(int operation, int tested, int target) {
            switch (operation) {
                case JUMP:
                    place = target;
                    break;
                case ZERO:
                    if (tested == 0) {
                        place = target;
                    }
                    break;
                case RETURN:
                    if (inside) {
                        place = back;
                        inside = false;
                    }
                    break;
                default:
                    ended = true;
                    break;
            }
        }

        private void followTrace() {
            int h = mix(trace, place);
            for (int i = 0; i < REGISTERS; i++) {
                h = mix(h, registers[i]);
            }
            trace = mix(h, output);
        }

        int stateOf(int what) {
            if (what >= 0 && what < REGISTERS) {
                return registers[what];
            }
            switch (what) {
                case 4:
                    return place;
                case 5:
                    return output;
                case 6:
                    return trace;
                case 7:
                    return inside ? 1 : 0;
                case 8:
                    return ended ? 1 : 0;
                case 9:
                    return steps;
                default:
                    return 0;
            }
        }

        int cellOf(int i) {
            return i >= 0 && i < CELLS ? cells[i] : 0;
        }

        boolean looksLike(Machine other) {
            for (int what = 0; what < STATES; what++) {
                if (stateOf(what) != other.stateOf(what)) {
                    return false;
                }
            }
            for (int i = 0; i < CELLS; i++) {
                if (cells[i] != other.cells[i]) {
                    return false;
                }
            }
            return true;
        }
    }
}
