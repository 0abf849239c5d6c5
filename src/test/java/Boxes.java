/** Boxes that several tests begin with. */
final class Boxes {
    /** Where busy() waits at last: 4 steps, 9 rounds of 7, 2 rings of 4. */
    static final int BUSY_END = 4 + 9 * 7 + 2 * 4;
    static final int BUSY_ENTRIES = 9 + 2;

    private Boxes() {
    }

    static RewindBox spinning(int interval) {
        return Asm.started(interval, Asm.jump(0));
    }

    /** Takes an input in every second step, from position 0 on. */
    static RewindBox reading(int interval) {
        return Asm.started(interval, Asm.read(1), Asm.jump(0));
    }

    static RewindBox busy(int interval) {
        return busy(interval, BUSY_END);
    }

    /** Reads, writes, is rung twice, and puts out, for so many steps. */
    static RewindBox busy(int interval, int steps) {
        RewindBox box = new RewindBox(interval);
        Asm.lay(box, 0, Asm.OPEN, Asm.set(3, 200), Asm.set(4, 13), Asm.jump(16));
        Asm.lay(box, 8, Asm.position(7), Asm.store(7, 3, 100), Asm.BACK);
        Asm.lay(box, 16, Asm.read(1), Asm.store(1, 3, 0), Asm.add(3, 3, 4), Asm.out(3), Asm.load(5, 0, 16),
            Asm.store(5, 3, -100), Asm.jump(16));
        box.start();
        for (int i = 0; i < 9; i++) {
            box.give(i * i - 7);
        }
        int left = steps - box.step(Math.min(9, steps));
        box.ring();
        left -= box.step(Math.min(17, left));
        box.ring();
        box.step(left);
        return box;
    }

    /** Gone back to position 30, with two inputs and a ring that wait. */
    static RewindBox busyGoneBack(int interval) {
        RewindBox box = busy(interval);
        box.go(30);
        box.give(61);
        box.give(62);
        box.ring();
        return box;
    }

    static RewindBox busyStopped(int interval) {
        RewindBox box = busyGoneBack(interval);
        box.stop();
        return box;
    }

    static void give(RewindBox box, int count) {
        for (int i = 1; i <= count; i++) {
            box.give(i);
        }
    }

    /** What all calls answer where there is no record. */
    static void haveNoRecord(Check check, String when, RewindBox box) {
        for (int what = -1; what <= 7; what++) {
            check.due(when + "record(" + what + ")", box.record(what), RewindBox.NONE);
            check.due(when + "log(0, " + what + ")", box.log(0, what), RewindBox.NONE);
        }
        for (int i = -1; i <= 1; i++) {
            check.due(when + "pages(" + i + ")", box.pages(i), RewindBox.NONE);
            check.due(when + "step(" + i + ")", box.step(i), RewindBox.NONE);
            check.due(when + "go(" + i + ")", box.go(i), false);
            check.due(when + "far(" + i + ")", box.far(i), RewindBox.NONE);
        }
        check.due(when + "give(1)", box.give(1), RewindBox.NONE);
        check.due(when + "ring()", box.ring(), false);
        check.due(when + "cut()", box.cut(), RewindBox.NONE);
        check.due(when + "poke(511, 7)", box.poke(511, 7), true);
    }
}
