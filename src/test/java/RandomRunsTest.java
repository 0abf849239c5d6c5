import java.util.Random;

/** All promises: runs of up to 512 calls on a box and on the plain model of the document, with fixed seeds. */
public final class RandomRunsTest {
    private static final int RUNS = 1500;
    private static final int CALLS = 512;
    private static final int[] ODD = {
        Integer.MIN_VALUE, Integer.MIN_VALUE + 1, -513, -512, -2, -1, 0, 1, 2, 7, 8, 9, 10, 11, 31, 32, 39, 40, 41,
        63, 64, 65, 99, 100, 101, 299, 300, 301, 511, 512, 513, 2559, 2560, 9999, 10000, 10001,
        Integer.MAX_VALUE - 1, Integer.MAX_VALUE,
    };

    private final Random random;
    private final Check check;
    private final RewindBox box;
    private final PlainBox plain;
    private final String run;
    private int calls = 0;

    private RandomRunsTest(long seed, Check check) {
        this.random = new Random(seed);
        this.check = check;
        this.run = "run " + seed + " call ";
        int interval = random.nextInt(4) == 0 ? odd() : 2 + random.nextInt(63);
        box = new RewindBox(interval);
        plain = new PlainBox(interval);
    }

    public static void main(String[] args) {
        Check check = new Check();
        for (long seed = 1; seed <= RUNS && check.allRight(); seed++) {
            new RandomRunsTest(seed, check).play();
        }
        check.end();
    }

    private void play() {
        boolean isTame = random.nextInt(3) > 0;
        layProgram(8 + random.nextInt(70), isTame);
        start();
        while (calls < CALLS && check.allRight()) {
            randomCall(isTame);
        }
    }

    private int odd() {
        return ODD[random.nextInt(ODD.length)];
    }

    private void layProgram(int length, boolean isTame) {
        for (int place = 0; place < length - 1; place++) {
            poke(place, isTame ? tame(length) : wild());
        }
        poke(length - 1, Asm.jump(random.nextInt(length - 1)));
    }

    /** Stores only far behind the program, so that it goes on for long. */
    private int tame(int length) {
        int a = random.nextInt(256);
        switch (random.nextInt(14)) {
            case 0:
                return Asm.read(a);
            case 1:
                return Asm.out(a);
            case 2:
                return Asm.position(a);
            case 3:
            case 4:
                return Asm.OPEN;
            case 5:
                return Asm.BACK;
            case 6:
            case 7:
            case 8:
                return Asm.store(a & 3, 4 + random.nextInt(4), random.nextInt(256));
            case 9:
                return Asm.set(4 + random.nextInt(4), length + 128 + random.nextInt(512 - length - 256));
            case 10:
                return Asm.load(a & 3, random.nextInt(256), random.nextInt(256));
            case 11:
                return Asm.wide(10 + random.nextInt(2), a, random.nextInt(length));
            default:
                return Asm.word(1 + random.nextInt(5), a & 3, random.nextInt(256), random.nextInt(256));
        }
    }

    private int wild() {
        int chosen = random.nextInt(12);
        if (chosen == 0) {
            return random.nextInt();
        }
        return Asm.word(1 + random.nextInt(20), random.nextInt(256), random.nextInt(256), random.nextInt(256));
    }

    private void randomCall(boolean isTame) {
        int end = Math.max(0, plain.record(1));
        switch (random.nextInt(isTame ? 40 : 44)) {
            case 0, 1, 2, 3 -> step(random.nextInt(80));
            case 4, 5 -> step(odd());
            case 6, 7, 8, 9, 10, 11, 12 -> give(random.nextInt(3) == 0 ? odd() : random.nextInt());
            case 13, 14, 15 -> ring();
            case 16, 17, 18, 19 -> go(random.nextInt(end + 2));
            case 20 -> go(odd());
            case 21 -> far(random.nextBoolean() ? odd() : random.nextInt(end + 2));
            case 22 -> cut(random.nextInt(3) > 0);
            case 23 -> poke(odd(), random.nextInt());
            case 24 -> restart(random.nextInt(12));
            case 25, 26 -> record(random.nextBoolean() ? odd() : random.nextInt(7));
            case 27, 28 -> pages(random.nextInt(3) == 0 ? odd() : random.nextInt(snapshotsSeen() + 1));
            case 29, 30 -> log(entriesSeen());
            case 31, 32 -> register(random.nextInt(4) == 0 ? odd() : random.nextInt(12));
            case 33, 34, 35 -> word(random.nextInt(4) == 0 ? odd() : random.nextInt(512));
            case 36 -> outs();
            case 37, 38 -> out(random.nextInt(3) == 0 ? odd() : random.nextInt(plain.outs() + 2));
            case 39 -> lookAtMuch();
            default -> restart(0);
        }
    }

    private int snapshotsSeen() {
        return Math.max(0, plain.record(3));
    }

    private int entriesSeen() {
        return Math.max(0, plain.record(2));
    }

    private void same(String call, long got, long want) {
        calls++;
        if (calls > CALLS) {
            // What such calls answer is free.
            return;
        }
        check.due(run + calls + " " + call, got, want);
    }

    private void same(String call, boolean got, boolean want) {
        same(call, got ? 1L : 0L, want ? 1L : 0L);
    }

    private void poke(int place, int v) {
        same("poke(" + place + ", " + v + ")", box.poke(place, v), plain.poke(place, v));
    }

    private void start() {
        calls++;
        box.start();
        plain.start();
    }

    private void stop() {
        calls++;
        box.stop();
        plain.stop();
    }

    /** Mostly a record is left alone, so that some of them grow long. */
    private void restart(int chosen) {
        if (chosen == 0) {
            start();
        } else if (chosen == 1) {
            stop();
            lookAtMachine();
            poke(random.nextInt(512), random.nextInt());
            start();
        } else if (chosen == 2 && random.nextInt(4) == 0) {
            stop();
        }
    }

    private void give(int v) {
        same("give(" + v + ")", box.give(v), plain.give(v));
    }

    private void ring() {
        same("ring()", box.ring(), plain.ring());
    }

    private void step(int n) {
        same("step(" + n + ")", box.step(n), plain.step(n));
    }

    private void go(int position) {
        same("go(" + position + ")", box.go(position), plain.go(position));
    }

    private void far(int position) {
        same("far(" + position + ")", box.far(position), plain.far(position));
    }

    private void cut(boolean nearTheEnd) {
        if (nearTheEnd) {
            go(plain.record(1) - random.nextInt(20));
        }
        same("cut()", box.cut(), plain.cut());
    }

    private void record(int what) {
        same("record(" + what + ")", box.record(what), plain.record(what));
    }

    private void pages(int k) {
        same("pages(" + k + ")", box.pages(k), plain.pages(k));
    }

    private void log(int seen) {
        int i = random.nextInt(4) == 0 ? odd() : random.nextInt(seen + 1);
        int what = random.nextInt(4) == 0 ? odd() : random.nextInt(3);
        same("log(" + i + ", " + what + ")", box.log(i, what), plain.log(i, what));
    }

    private void register(int i) {
        same("register(" + i + ")", box.register(i), plain.register(i));
    }

    private void word(int place) {
        same("word(" + place + ")", box.word(place), plain.word(place));
    }

    private void outs() {
        same("outs()", box.outs(), plain.outs());
    }

    private void out(int i) {
        same("out(" + i + ")", box.out(i), plain.out(i));
    }

    private void lookAtMachine() {
        for (int i = 0; i <= 10; i++) {
            register(i);
        }
        outs();
    }

    private void lookAtMuch() {
        lookAtMachine();
        for (int i = 0; i < 12; i++) {
            word(random.nextInt(512));
        }
        for (int what = 0; what <= 6; what++) {
            record(what);
        }
    }
}
