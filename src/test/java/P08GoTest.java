/** Promise 8: go. */
public final class P08GoTest {
    private P08GoTest() {
    }

    public static void main(String[] args) {
        Check check = new Check();
        withoutARecord(check);
        everyPosition(check, 2);
        everyPosition(check, 5);
        everyPosition(check, 64);
        outside(check);
        whatWaitsStays(check);
        check.end();
    }

    private static void withoutARecord(Check check) {
        RewindBox box = new RewindBox(4);
        check.due("go(0)", box.go(0), false);
        check.due("go(-1)", box.go(-1), false);
        box.start();
        check.due("go(0) at the beginning", box.go(0), true);
        check.due("go(1) at the beginning", box.go(1), false);
    }

    /** Writes over itself (place 16 on), reads, is rung, and counts its outs. */
    private static RewindBox busy(int interval) {
        RewindBox box = new RewindBox(interval);
        Asm.lay(box, 0, Asm.OPEN, Asm.set(3, 200), Asm.set(4, 13), Asm.jump(16));
        Asm.lay(box, 8, Asm.position(7), Asm.store(7, 3, 100), Asm.BACK);
        Asm.lay(box, 16, Asm.read(1), Asm.store(1, 3, 0), Asm.add(3, 3, 4), Asm.out(3), Asm.load(5, 0, 16),
            Asm.store(5, 3, -100), Asm.jump(16));
        box.start();
        for (int i = 0; i < 9; i++) {
            box.give(i * i - 7);
        }
        box.step(9);
        box.ring();
        box.step(17);
        box.ring();
        box.step(100);
        return box;
    }

    private static long look(RewindBox box) {
        long sum = 17;
        for (int i = 0; i <= 10; i++) {
            sum = sum * 31 + box.register(i);
        }
        for (int place = 0; place < 512; place++) {
            sum = sum * 31 + box.word(place);
        }
        sum = sum * 31 + box.outs();
        for (int i = 0; i <= box.outs(); i++) {
            sum = sum * 31 + box.out(i);
        }
        return sum;
    }

    private static void everyPosition(Check check, int interval) {
        RewindBox box = busy(interval);
        int end = box.record(1);
        check.due("end", end, 4 + 9 * 7 + 2 * 4);
        long[] due = new long[end + 1];
        box.go(0);
        for (int position = 0; position <= end; position++) {
            due[position] = look(box);
            box.step(1);
        }
        for (int i = 0; i <= end; i++) {
            int position = i * 29 % (end + 1);
            String made = "interval " + interval + ": go(" + position + ")";
            check.due(made, box.go(position), true);
            check.due(made + " position", box.record(0), position);
            check.due(made + " end", box.record(1), end);
            check.due(made + " machine", look(box), due[position]);
            check.due(made + " entries", box.record(2), 11);
            check.due(made + " snapshots", box.record(3), end / interval + 1);
        }
    }

    private static void outside(Check check) {
        RewindBox box = busy(4);
        box.go(30);
        long before = look(box);
        int[] wrong = {Integer.MIN_VALUE, -4, -1, box.record(1) + 1, 512, Integer.MAX_VALUE};
        for (int position : wrong) {
            check.due("go(" + position + ")", box.go(position), false);
            check.due("nothing happens", look(box), before);
            check.due("the position stays", box.record(0), 30);
        }
        check.due("go(the end)", box.go(box.record(1)), true);
    }

    private static void whatWaitsStays(Check check) {
        RewindBox box = busy(4);
        box.go(20);
        box.give(1);
        box.give(2);
        box.ring();
        check.due("go(5)", box.go(5), true);
        check.due("inputs that wait", box.record(5), 2);
        check.due("the ring", box.record(6), 1);
        check.due("go(70)", box.go(70), true);
        check.due("inputs that wait", box.record(5), 2);
        check.due("the ring", box.record(6), 1);
    }
}
