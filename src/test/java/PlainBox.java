import java.util.ArrayList;
import java.util.HashSet;
import java.util.List;
import java.util.Set;

/**
 * The document in its plainest form: the whole machine is kept for every
 * position, so nothing is ever done again by a log or from a snapshot.
 */
final class PlainBox {
    private static final class State {
        final int[] registers;
        final int[] memory;
        final List<Integer> outs;
        int pc;
        int back;
        boolean open;

        State(int[] registers, int[] memory, List<Integer> outs) {
            this.registers = registers.clone();
            this.memory = memory.clone();
            this.outs = new ArrayList<>(outs);
        }

        static State fresh(int[] memory) {
            return new State(new int[8], memory, new ArrayList<>());
        }

        State copy() {
            State other = new State(registers, memory, outs);
            other.pc = pc;
            other.back = back;
            other.open = open;
            return other;
        }
    }

    /** One step: the page it wrote (-1: none), and what it took (0: nothing, 1: an input, 2: a ring). */
    private static final class Done {
        int page = -1;
        int took = 0;
        int input = 0;
    }

    private final int interval;
    private State machine = State.fresh(new int[512]);
    private boolean recording = false;
    private final List<State> states = new ArrayList<>();
    private final List<Done> steps = new ArrayList<>();
    private final List<Integer> waiting = new ArrayList<>();
    private boolean ring = false;
    private int position = 0;

    PlainBox(int interval) {
        this.interval = interval < 2 ? 2 : interval > 64 ? 64 : interval;
    }

    boolean poke(int place, int v) {
        if (recording || place < 0 || place > 511) {
            return false;
        }
        machine.memory[place] = v;
        return true;
    }

    void start() {
        machine = State.fresh(machine.memory);
        states.clear();
        steps.clear();
        waiting.clear();
        states.add(machine);
        ring = false;
        position = 0;
        recording = true;
    }

    void stop() {
        machine = machine.copy();
        recording = false;
    }

    int give(int v) {
        if (!recording || waiting.size() == 100) {
            return -1;
        }
        waiting.add(v);
        return waiting.size();
    }

    boolean ring() {
        ring = recording;
        return recording;
    }

    int step(int n) {
        if (!recording) {
            return -1;
        }
        int done = 0;
        while (done < n && done < 10000 && (position < end() || live())) {
            position++;
            machine = states.get(position);
            done++;
        }
        return done;
    }

    boolean go(int to) {
        if (!recording || to < 0 || to > end()) {
            return false;
        }
        position = to;
        machine = states.get(to);
        return true;
    }

    int far(int to) {
        if (!recording || to < 0 || to > end()) {
            return -1;
        }
        int steps = 0;
        for (int p = to; p % interval != 0; p--) {
            steps++;
        }
        return steps;
    }

    int cut() {
        if (!recording) {
            return -1;
        }
        states.subList(position + 1, states.size()).clear();
        steps.subList(position, steps.size()).clear();
        return logged().size();
    }

    int record(int what) {
        if (!recording || what < 0 || what > 6) {
            return -1;
        }
        int[] all = {position, end(), logged().size(), snapshots(), allPages(), waiting.size(), ring ? 1 : 0};
        return all[what];
    }

    int pages(int k) {
        if (!recording || k < 0 || k >= snapshots()) {
            return -1;
        }
        return k == 0 ? 0 : written((k - 1) * interval, k * interval).size();
    }

    int log(int i, int what) {
        if (!recording || i < 0 || i >= logged().size() || what < 0 || what > 2) {
            return -1;
        }
        int at = logged().get(i);
        int[] all = {at, steps.get(at).took, steps.get(at).input};
        return all[what];
    }

    int register(int i) {
        if (i >= 0 && i < 8) {
            return machine.registers[i];
        }
        return i == 8 ? machine.pc : i == 9 ? machine.back : i == 10 && machine.open ? 1 : 0;
    }

    int word(int place) {
        return place < 0 || place > 511 ? 0 : machine.memory[place];
    }

    int outs() {
        return machine.outs.size();
    }

    int out(int i) {
        return i < 0 || i >= machine.outs.size() || i > 63 ? 0 : machine.outs.get(i);
    }

    private int end() {
        return states.size() - 1;
    }

    private int snapshots() {
        return end() / interval + 1;
    }

    private int allPages() {
        int sum = 0;
        for (int k = 0; k < snapshots(); k++) {
            sum += pages(k);
        }
        return sum;
    }

    private Set<Integer> written(int from, int to) {
        Set<Integer> found = new HashSet<>();
        for (int i = from; i < to; i++) {
            if (steps.get(i).page >= 0) {
                found.add(steps.get(i).page);
            }
        }
        return found;
    }

    private List<Integer> logged() {
        List<Integer> found = new ArrayList<>();
        for (int i = 0; i < steps.size(); i++) {
            if (steps.get(i).took != 0) {
                found.add(i);
            }
        }
        return found;
    }

    /** Tries one step at the end on a copy, and keeps it only if the machine is not full. */
    private boolean live() {
        State next = machine.copy();
        Done done = new Done();
        if (ring && next.open) {
            done.took = 2;
            next.back = next.pc;
            next.pc = 8;
            next.open = false;
        } else if (!instruction(next, done)) {
            return false;
        }
        if (done.took != 0 && logged().size() == 300) {
            return false;
        }
        int pagesBefore = allPages();
        states.add(next);
        steps.add(done);
        if (end() % interval == 0 && (end() / interval >= 40 || pagesBefore + pages(end() / interval) > 300)) {
            states.remove(states.size() - 1);
            steps.remove(steps.size() - 1);
            return false;
        }
        if (done.took == 1) {
            waiting.remove(0);
        } else if (done.took == 2) {
            ring = false;
        }
        return true;
    }

    private boolean instruction(State m, Done done) {
        int[] r = m.registers;
        int instruction = m.memory[m.pc];
        int op = instruction >> 24 & 255;
        int a = (instruction >> 16 & 255) % 8;
        int b = (instruction >> 8 & 255) % 8;
        int c = (instruction & 255) % 8;
        int s = (instruction & 255) > 127 ? (instruction & 255) - 256 : instruction & 255;
        int w = (instruction & 65535) > 32767 ? (instruction & 65535) - 65536 : instruction & 65535;
        int place = modulo((long) r[b] + s);
        if (op == 0 || op == 12 && waiting.isEmpty()) {
            return false;
        }
        m.pc = modulo(m.pc + 1L);
        switch (op) {
            case 1 -> r[a] = r[b] + r[c];
            case 2 -> r[a] = r[b] - r[c];
            case 3 -> r[a] = r[b] * r[c];
            case 4 -> r[a] = r[b] & r[c];
            case 5 -> r[a] = r[b] ^ r[c];
            case 6 -> r[a] = w;
            case 7 -> r[a] = m.memory[place];
            case 8 -> {
                m.memory[place] = r[a];
                done.page = place / 16;
            }
            case 9 -> m.pc = modulo(w);
            case 10 -> m.pc = r[a] == 0 ? modulo(w) : m.pc;
            case 11 -> m.pc = r[a] < 0 ? modulo(w) : m.pc;
            case 12 -> {
                r[a] = waiting.get(0);
                done.took = 1;
                done.input = waiting.get(0);
            }
            case 13 -> m.outs.add(r[a]);
            case 14 -> r[a] = position;
            case 15 -> {
                m.pc = m.back;
                m.open = true;
            }
            case 16 -> m.open = true;
            case 17 -> m.open = false;
            case 18 -> m.pc = modulo(r[a]);
            default -> { }
        }
        return true;
    }

    private static int modulo(long value) {
        return (int) ((value % 512 + 512) % 512);
    }
}
