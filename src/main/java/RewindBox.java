import java.util.Arrays;

/**
 * A small machine whose run is recorded by what came from outside alone, with
 * snapshots now and then of the pages that were written, so that any moment of
 * it can be gone back to, done again step by step, and left in another
 * direction.
 */
public final class RewindBox {
    public static final int NONE = -1;

    private static final int LEAST_INTERVAL = 2;
    private static final int MOST_INTERVAL = 64;
    private static final int MOST_STEPS = 10000;

    private static final int REGISTERS = 8;
    private static final int WORDS = 512;
    private static final int PAGE_WORDS = 16;
    private static final int PAGES = WORDS / PAGE_WORDS;
    private static final int KEPT_OUTS = 64;
    private static final int RING_PLACE = 8;

    private static final int MOST_WAITING = 100;
    private static final int MOST_ENTRIES = 300;
    private static final int MOST_SNAPSHOTS = 40;
    private static final int MOST_PAGES = 300;

    // What the next step is. INPUT and RING are the numbers that log() answers.
    private static final int NO_STEP = -1;
    private static final int PLAIN = 0;
    private static final int INPUT = 1;
    private static final int RING = 2;

    private final int interval;
    private final Machine machine;
    private final Inputs inputs;
    private final Log entries;
    private final Snapshots snapshots;

    private boolean recording;
    private boolean ringCame;
    private int now;
    private int end;

    public RewindBox(int interval) {
        this.interval = Math.max(LEAST_INTERVAL, Math.min(interval, MOST_INTERVAL));
        this.machine = new Machine();
        this.inputs = new Inputs();
        this.entries = new Log();
        this.snapshots = new Snapshots();
    }

    public boolean poke(int place, int v) {
        if (recording || !isPlace(place)) {
            return false;
        }
        machine.memory[place] = v;
        return true;
    }

    public void start() {
        machine.reset();
        inputs.clear();
        entries.count = 0;
        snapshots.begin(machine);
        recording = true;
        ringCame = false;
        now = 0;
        end = 0;
    }

    public void stop() {
        recording = false;
    }

    public int give(int v) {
        if (!recording || inputs.count >= MOST_WAITING) {
            return NONE;
        }
        inputs.add(v);
        return inputs.count;
    }

    public boolean ring() {
        if (!recording) {
            return false;
        }
        ringCame = true;
        return true;
    }

    public int step(int n) {
        if (!recording) {
            return NONE;
        }
        int most = Math.min(n, MOST_STEPS);
        int done = 0;
        while (done < most && tryStep()) {
            done++;
        }
        return done;
    }

    public boolean go(int position) {
        if (!isOnRecord(position)) {
            return false;
        }
        int nearest = position / interval;
        snapshots.restore(nearest, machine);
        now = nearest * interval;
        for (int left = position - now; left > 0; left--) {
            stepByLog();
        }
        return true;
    }

    public int far(int position) {
        return isOnRecord(position) ? position % interval : NONE;
    }

    public int cut() {
        if (!recording) {
            return NONE;
        }
        end = now;
        entries.count = entries.countBefore(now);
        snapshots.keepFirst(now / interval + 1);
        return entries.count;
    }

    public int record(int what) {
        if (!recording) {
            return NONE;
        }
        switch (what) {
            case 0:
                return now;
            case 1:
                return end;
            case 2:
                return entries.count;
            case 3:
                return snapshots.count;
            case 4:
                return snapshots.pages;
            case 5:
                return inputs.count;
            case 6:
                return ringCame ? 1 : 0;
            default:
                return NONE;
        }
    }

    public int pages(int k) {
        if (!recording || k < 0 || k >= snapshots.count) {
            return NONE;
        }
        return snapshots.row[k].pageCount();
    }

    public int log(int i, int what) {
        if (!recording || i < 0 || i >= entries.count) {
            return NONE;
        }
        switch (what) {
            case 0:
                return entries.positions[i];
            case 1:
                return entries.kinds[i];
            case 2:
                return entries.values[i];
            default:
                return NONE;
        }
    }

    public int register(int i) {
        if (i >= 0 && i < REGISTERS) {
            return machine.registers[i];
        }
        switch (i) {
            case 8:
                return machine.pc;
            case 9:
                return machine.back;
            case 10:
                return machine.open ? 1 : 0;
            default:
                return 0;
        }
    }

    public int word(int place) {
        return isPlace(place) ? machine.memory[place] : 0;
    }

    public int outs() {
        return machine.outCount;
    }

    public int out(int i) {
        if (i < 0 || i >= machine.outCount || i >= KEPT_OUTS) {
            return 0;
        }
        return machine.keptOuts[i];
    }

    private static boolean isPlace(int place) {
        return place >= 0 && place < WORDS;
    }

    // WORDS is a power of two, so the mask is the modulo that is never below 0.
    private static int placeOf(int value) {
        return value & (WORDS - 1);
    }

    private boolean isOnRecord(int position) {
        return recording && position >= 0 && position <= end;
    }

    private boolean tryStep() {
        if (now < end) {
            stepByLog();
            return true;
        }
        int kind = nextLiveKind();
        if (kind == NO_STEP || isFull(kind)) {
            return false;
        }
        stepLive(kind);
        return true;
    }

    private int nextLiveKind() {
        if (ringCame && machine.open) {
            return RING;
        }
        int op = machine.nextOp();
        if (op == Machine.HALT) {
            return NO_STEP;
        }
        if (op != Machine.READ) {
            return PLAIN;
        }
        return inputs.count > 0 ? INPUT : NO_STEP;
    }

    private boolean isFull(int kind) {
        if (kind != PLAIN && entries.count >= MOST_ENTRIES) {
            return true;
        }
        if ((end + 1) % interval != 0) {
            return false;
        }
        // A ring is taken in the place of the instruction, so nothing is stored then.
        int written = kind == RING ? machine.written : machine.writtenWithNext();
        return !snapshots.hasRoomFor(written);
    }

    private void stepLive(int kind) {
        int input = 0;
        if (kind == RING) {
            ringCame = false;
        } else if (kind == INPUT) {
            input = inputs.take();
        }
        if (kind != PLAIN) {
            entries.add(now, kind, input);
        }
        advance(kind, input);
    }

    private void stepByLog() {
        int i = entries.countBefore(now);
        if (i < entries.count && entries.positions[i] == now) {
            advance(entries.kinds[i], entries.values[i]);
        } else {
            advance(PLAIN, 0);
        }
    }

    private void advance(int kind, int input) {
        if (kind == RING) {
            machine.takeRing();
        } else {
            machine.perform(now, input);
        }
        now++;
        boolean isFarthest = now > end;
        if (isFarthest) {
            end = now;
        }
        if (now % interval == 0) {
            if (isFarthest) {
                snapshots.add(machine);
            }
            machine.written = 0;
        }
    }

    /** The machine as it is at one position. */
    private static final class Machine {
        static final int HALT = 0;
        static final int ADD = 1;
        static final int SUBTRACT = 2;
        static final int MULTIPLY = 3;
        static final int AND = 4;
        static final int EXCLUSIVE_OR = 5;
        static final int SET = 6;
        static final int LOAD = 7;
        static final int STORE = 8;
        static final int JUMP = 9;
        static final int JUMP_IF_ZERO = 10;
        static final int JUMP_IF_BELOW = 11;
        static final int READ = 12;
        static final int WRITE_OUT = 13;
        static final int TELL_POSITION = 14;
        static final int RETURN_OPEN = 15;
        static final int OPEN = 16;
        static final int CLOSE = 17;
        static final int JUMP_TO = 18;

        final int[] registers;
        final int[] memory;
        final int[] keptOuts;
        int pc;
        int back;
        boolean open;
        int outCount;
        // Bit p stands for page p: was it written since the snapshot before?
        int written;

        Machine() {
            registers = new int[REGISTERS];
            memory = new int[WORDS];
            keptOuts = new int[KEPT_OUTS];
        }

        void reset() {
            Arrays.fill(registers, 0);
            pc = 0;
            back = 0;
            open = false;
            outCount = 0;
            written = 0;
        }

        int nextOp() {
            return memory[pc] >>> 24;
        }

        int writtenWithNext() {
            return nextOp() == STORE ? written | pageBit(target(memory[pc])) : written;
        }

        void takeRing() {
            back = pc;
            pc = RING_PLACE;
            open = false;
        }

        void perform(int position, int input) {
            int word = memory[pc];
            int op = word >>> 24;
            int a = fieldA(word);
            pc = placeOf(pc + 1);
            switch (op) {
                case ADD:
                case SUBTRACT:
                case MULTIPLY:
                case AND:
                case EXCLUSIVE_OR:
                    registers[a] = compute(op, registers[fieldB(word)], registers[fieldC(word)]);
                    break;
                case SET:
                    registers[a] = signedHalf(word);
                    break;
                case LOAD:
                    registers[a] = memory[target(word)];
                    break;
                case STORE:
                    store(target(word), registers[a]);
                    break;
                case READ:
                    registers[a] = input;
                    break;
                case WRITE_OUT:
                    putOut(registers[a]);
                    break;
                case TELL_POSITION:
                    registers[a] = position;
                    break;
                case OPEN:
                    open = true;
                    break;
                case CLOSE:
                    open = false;
                    break;
                default:
                    jump(op, registers[a], placeOf(signedHalf(word)));
                    break;
            }
        }

        private static int compute(int op, int left, int right) {
            switch (op) {
                case ADD:
                    return left + right;
                case SUBTRACT:
                    return left - right;
                case MULTIPLY:
                    return left * right;
                case AND:
                    return left & right;
                default:
                    return left ^ right;
            }
        }

        private void jump(int op, int value, int place) {
            switch (op) {
                case JUMP:
                    pc = place;
                    break;
                case JUMP_IF_ZERO:
                    pc = value == 0 ? place : pc;
                    break;
                case JUMP_IF_BELOW:
                    pc = value < 0 ? place : pc;
                    break;
                case RETURN_OPEN:
                    pc = back;
                    open = true;
                    break;
                case JUMP_TO:
                    pc = placeOf(value);
                    break;
                default:
                    break;
            }
        }

        private void store(int place, int v) {
            memory[place] = v;
            written |= pageBit(place);
        }

        private void putOut(int v) {
            if (outCount < KEPT_OUTS) {
                keptOuts[outCount] = v;
            }
            outCount++;
        }

        private int target(int word) {
            return placeOf(registers[fieldB(word)] + signedByte(word));
        }

        private static int pageBit(int place) {
            return 1 << (place / PAGE_WORDS);
        }

        private static int fieldA(int word) {
            return (word >> 16) & 7;
        }

        private static int fieldB(int word) {
            return (word >> 8) & 7;
        }

        private static int fieldC(int word) {
            return word & 7;
        }

        private static int signedByte(int word) {
            return (byte) word;
        }

        private static int signedHalf(int word) {
            return (short) word;
        }
    }

    /** The inputs that were given and wait, in a row that goes round. */
    private static final class Inputs {
        final int[] values;
        int first;
        int count;

        Inputs() {
            values = new int[MOST_WAITING];
        }

        void clear() {
            first = 0;
            count = 0;
        }

        void add(int v) {
            values[(first + count) % MOST_WAITING] = v;
            count++;
        }

        int take() {
            int v = values[first];
            first = (first + 1) % MOST_WAITING;
            count--;
            return v;
        }
    }

    /** What came from outside, each with the position before the step that took it. */
    private static final class Log {
        // The greatest power of two that is not above MOST_ENTRIES.
        private static final int WIDEST_JUMP = 256;

        final int[] positions;
        final int[] kinds;
        final int[] values;
        int count;

        Log() {
            positions = new int[MOST_ENTRIES];
            kinds = new int[MOST_ENTRIES];
            values = new int[MOST_ENTRIES];
        }

        void add(int position, int kind, int value) {
            positions[count] = position;
            kinds[count] = kind;
            values[count] = value;
            count++;
        }

        // Positions only rise along the log, so jumps that halve find the place.
        int countBefore(int position) {
            int before = 0;
            for (int jump = WIDEST_JUMP; jump > 0; jump /= 2) {
                int next = before + jump;
                if (next <= count && positions[next - 1] < position) {
                    before = next;
                }
            }
            return before;
        }
    }

    /** The machine at one position, but for its memory. */
    private static final class Snapshot {
        final int[] registers;
        int pc;
        int back;
        boolean open;
        int outCount;
        int written;
        int firstPage;

        Snapshot() {
            registers = new int[REGISTERS];
        }

        int pageCount() {
            return Integer.bitCount(written);
        }

        boolean hasPage(int page) {
            return (written >>> page & 1) == 1;
        }

        void takeFrom(Machine machine) {
            System.arraycopy(machine.registers, 0, registers, 0, REGISTERS);
            pc = machine.pc;
            back = machine.back;
            open = machine.open;
            outCount = machine.outCount;
            written = machine.written;
        }

        // The outs that are kept stay right: those before a position never change.
        void giveBackTo(Machine machine) {
            System.arraycopy(registers, 0, machine.registers, 0, REGISTERS);
            machine.pc = pc;
            machine.back = back;
            machine.open = open;
            machine.outCount = outCount;
            machine.written = 0;
        }
    }

    /** The memory at the start, and the snapshots with the pages that were written since. */
    private static final class Snapshots {
        final int[] firstMemory;
        final int[] pageWords;
        final Snapshot[] row;
        int count;
        int pages;

        Snapshots() {
            firstMemory = new int[WORDS];
            pageWords = new int[MOST_PAGES * PAGE_WORDS];
            row = new Snapshot[MOST_SNAPSHOTS];
            for (int k = 0; k < MOST_SNAPSHOTS; k++) {
                row[k] = new Snapshot();
            }
        }

        void begin(Machine machine) {
            System.arraycopy(machine.memory, 0, firstMemory, 0, WORDS);
            count = 0;
            pages = 0;
            add(machine);
        }

        boolean hasRoomFor(int written) {
            return count < MOST_SNAPSHOTS && pages + Integer.bitCount(written) <= MOST_PAGES;
        }

        void add(Machine machine) {
            Snapshot snapshot = row[count];
            snapshot.takeFrom(machine);
            snapshot.firstPage = pages;
            for (int page = 0; page < PAGES; page++) {
                if (snapshot.hasPage(page)) {
                    System.arraycopy(machine.memory, page * PAGE_WORDS, pageWords, pages * PAGE_WORDS, PAGE_WORDS);
                    pages++;
                }
            }
            count++;
        }

        void keepFirst(int kept) {
            Snapshot last = row[kept - 1];
            count = kept;
            pages = last.firstPage + last.pageCount();
        }

        void restore(int k, Machine machine) {
            System.arraycopy(firstMemory, 0, machine.memory, 0, WORDS);
            for (int i = 1; i <= k; i++) {
                layPages(row[i], machine.memory);
            }
            row[k].giveBackTo(machine);
        }

        private void layPages(Snapshot snapshot, int[] memory) {
            int from = snapshot.firstPage;
            for (int page = 0; page < PAGES; page++) {
                if (snapshot.hasPage(page)) {
                    System.arraycopy(pageWords, from * PAGE_WORDS, memory, page * PAGE_WORDS, PAGE_WORDS);
                    from++;
                }
            }
        }
    }
}
