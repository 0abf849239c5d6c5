/** Promise 8: go. */
public final class P08GoTest {
    private P08GoTest() {
    }

    public static void main(String[] args) {
        Check check = new Check();
        withoutARecord(check);
        everyPosition(check, 2);
        everyPosition(check, 5);
        everyPosition(check, 64);
        outside(check);
        whatWaitsStays(check);
        check.end();
    }

    private static void withoutARecord(Check check) {
        RewindBox box = new RewindBox(4);
        check.due("go(0)", box.go(0), false);
        check.due("go(-1)", box.go(-1), false);
        box.start();
        check.due("go(0) at the beginning", box.go(0), true);
        check.due("go(1) at the beginning", box.go(1), false);
    }

    /** Reads, writes, is rung, and counts its outs, for steps at most. */
    private static RewindBox busy(int interval, int steps) {
        RewindBox box = new RewindBox(interval);
        Asm.lay(box, 0, Asm.OPEN, Asm.set(3, 200), Asm.set(4, 13), Asm.jump(16));
        Asm.lay(box, 8, Asm.position(7), Asm.store(7, 3, 100), Asm.BACK);
        Asm.lay(box, 16, Asm.read(1), Asm.store(1, 3, 0), Asm.add(3, 3, 4), Asm.out(3), Asm.load(5, 0, 16),
            Asm.store(5, 3, -100), Asm.jump(16));
        box.start();
        for (int i = 0; i < 9; i++) {
            box.give(i * i - 7);
        }
        int left = steps - box.step(Math.min(9, steps));
        box.ring();
        left -= box.step(Math.min(17, left));
        box.ring();
        box.step(left);
        return box;
    }

    /** Half of the words alone, so that a box is not used for more than 512 calls. */
    private static long look(RewindBox box, int half) {
        long sum = 17;
        for (int i = 0; i <= 10; i++) {
            sum = sum * 31 + box.register(i);
        }
        for (int place = half * 256; place < half * 256 + 256; place++) {
            sum = sum * 31 + box.word(place);
        }
        int outs = box.outs();
        for (int i = 0; i <= outs; i++) {
            sum = sum * 31 + box.out(i);
        }
        return sum * 31 + outs;
    }

    /** What a box is live at a position is what another one is that has gone back to it. */
    private static void everyPosition(Check check, int interval) {
        int end = 4 + 9 * 7 + 2 * 4;
        check.due("end", busy(interval, 1000).record(1), end);
        for (int position = 0; position <= end; position++) {
            for (int half = 0; half < 2; half++) {
                RewindBox live = busy(interval, position);
                RewindBox box = busy(interval, 1000);
                box.go((position * 29 + 11) % (end + 1));
                String made = "interval " + interval + ": go(" + position + ")";
                check.due(made, box.go(position), true);
                check.due(made + " machine", look(box, half), look(live, half));
                check.due(made + " position", box.record(0), position);
                check.due(made + " end", box.record(1), end);
                check.due(made + " entries", box.record(2), 11);
                check.due(made + " snapshots", box.record(3), end / interval + 1);
            }
        }
    }

    private static void outside(Check check) {
        int end = busy(4, 1000).record(1);
        int[] wrong = {Integer.MIN_VALUE, -4, -1, end + 1, 512, Integer.MAX_VALUE};
        for (int position : wrong) {
            RewindBox box = busy(4, 1000);
            RewindBox other = busy(4, 1000);
            box.go(30);
            other.go(30);
            check.due("go(" + position + ")", box.go(position), false);
            check.due("nothing happens", look(box, 0), look(other, 0));
            check.due("the position stays", box.record(0), 30);
            check.due("go(the end)", box.go(end), true);
        }
    }

    private static void whatWaitsStays(Check check) {
        RewindBox box = busy(4, 1000);
        box.go(20);
        box.give(1);
        box.give(2);
        box.ring();
        check.due("go(5)", box.go(5), true);
        check.due("inputs that wait", box.record(5), 2);
        check.due("the ring", box.record(6), 1);
        check.due("go(70)", box.go(70), true);
        check.due("inputs that wait", box.record(5), 2);
        check.due("the ring", box.record(6), 1);
    }
}
