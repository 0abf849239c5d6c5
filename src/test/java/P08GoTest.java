/** Promise 8: go. */
public final class P08GoTest {
    private P08GoTest() {
    }

    public static void main(String[] args) {
        Cases cases = Cases.ofPromise(8);
        cases.hold("The machine is as it was at a position: true;", P08GoTest::everyPosition);
        cases.hold("The machine is as it was at a position: true;", P08GoTest::theFirstAndTheLast);
        cases.hold("The machine is as it was at a position: true;", P08GoTest::theRecordStays);
        cases.hold("The machine is as it was at a position: true;", P08GoTest::changedProgram);
        cases.hold("false, and nothing happens, if that is below 0", P08GoTest::belowZero);
        cases.hold("or behind the end,", P08GoTest::behindTheEnd);
        cases.hold("or behind the end,", P08GoTest::behindACut);
        cases.hold("or there is no record.", P08GoTest::withoutARecord);
        cases.hold("(Inputs that wait", P08GoTest::inputsStay);
        cases.hold("and a ring that came stay.)", P08GoTest::aRingStays);
        cases.end();
    }

    /** Half of the words alone, so that a box is not used for more than 512 calls. */
    private static long look(RewindBox box, int half) {
        long sum = 17;
        for (int i = 0; i <= 10; i++) {
            sum = sum * 31 + box.register(i);
        }
        for (int place = half * 256; place < half * 256 + 256; place++) {
            sum = sum * 31 + box.word(place);
        }
        int outs = box.outs();
        for (int i = 0; i <= outs; i++) {
            sum = sum * 31 + box.out(i);
        }
        return sum * 31 + outs;
    }

    /** What a box is live at a position is what another one is that has gone back to it. */
    private static void everyPosition(Check check) {
        int[] intervals = {2, 3, 5, 16, 63, 64};
        for (int interval : intervals) {
            for (int position = 0; position <= Boxes.BUSY_END; position++) {
                isAsItWas(check, interval, position, 0);
                isAsItWas(check, interval, position, 1);
            }
        }
    }

    private static void isAsItWas(Check check, int interval, int position, int half) {
        RewindBox live = Boxes.busy(interval, position);
        RewindBox box = Boxes.busy(interval);
        box.go((position * 29 + 11) % (Boxes.BUSY_END + 1));
        String made = "interval " + interval + ": go(" + position + ")";
        check.due(made, box.go(position), true);
        check.due(made + " machine", look(box, half), look(live, half));
        check.due(made + " position", box.record(0), position);
    }

    private static void theFirstAndTheLast(Check check) {
        RewindBox fresh = Boxes.spinning(4);
        check.due("go(0) at the beginning", fresh.go(0), true);
        RewindBox box = Boxes.busy(4);
        check.due("go(the end), being there", box.go(Boxes.BUSY_END), true);
        check.due("record(0)", box.record(0), Boxes.BUSY_END);
        check.due("go(0)", box.go(0), true);
        check.due("record(0)", box.record(0), 0);
        check.due("go(the end)", box.go(Boxes.BUSY_END), true);
        check.due("record(0)", box.record(0), Boxes.BUSY_END);
        RewindBox full = Boxes.spinning(64);
        full.step(9999);
        check.due("go(2559)", full.go(2559), true);
        check.due("go(2560)", full.go(2560), false);
    }

    private static void theRecordStays(Check check) {
        int[] due = {0, Boxes.BUSY_END, Boxes.BUSY_ENTRIES, Boxes.BUSY_END / 4 + 1, Boxes.busy(4).record(4)};
        RewindBox box = Boxes.busy(4);
        int[] positions = {40, 0, 75, 1, 74, 3, 4, 5};
        for (int position : positions) {
            box.go(position);
            due[0] = position;
            for (int what = 0; what < due.length; what++) {
                check.due("record(" + what + ") at " + position, box.record(what), due[what]);
            }
        }
    }

    /** It writes over its own instructions, and those before it come back. */
    private static void changedProgram(Check check) {
        RewindBox box = Asm.started(4, Asm.set(1, 5), Asm.load(2, 0, 9), Asm.store(2, 0, 0), Asm.jump(0));
        check.due("step(9)", box.step(9), 4);
        check.due("word(0) is now a halt", box.word(0), 0);
        check.due("go(1)", box.go(1), true);
        check.due("word(0)", box.word(0), Asm.set(1, 5));
        check.due("step(9)", box.step(9), 3);
        check.due("go(4)", box.go(4), true);
        check.due("word(0)", box.word(0), 0);
    }

    private static void isRefused(Check check, int position) {
        String call = "go(" + position + ")";
        check.due(call + " at the end", Boxes.busy(4).go(position), false);
        check.due(call + " gone back", Boxes.busyGoneBack(4).go(position), false);
        Twins.stay(check, call, () -> Boxes.busyGoneBack(4), box -> box.go(position));
    }

    private static void belowZero(Check check) {
        int[] positions = {-1, -2, -4, -75, Integer.MIN_VALUE + 1, Integer.MIN_VALUE};
        for (int position : positions) {
            isRefused(check, position);
        }
        check.due("go(-1) at the beginning", Boxes.spinning(4).go(-1), false);
    }

    private static void behindTheEnd(Check check) {
        int[] positions = {Boxes.BUSY_END + 1, Boxes.BUSY_END + 4, 512, 2560, Integer.MAX_VALUE};
        for (int position : positions) {
            isRefused(check, position);
        }
        check.due("go(1) at the beginning", Boxes.spinning(4).go(1), false);
    }

    private static void behindACut(Check check) {
        RewindBox box = Boxes.busy(4);
        box.go(33);
        box.cut();
        check.due("go(34)", box.go(34), false);
        check.due("record(0)", box.record(0), 33);
        check.due("go(36), where a snapshot was", box.go(36), false);
        check.due("go(33)", box.go(33), true);
        check.due("go(32)", box.go(32), true);
    }

    private static void withoutARecord(Check check) {
        int[] positions = {0, 1, 30, Boxes.BUSY_END, -1, Integer.MIN_VALUE, Integer.MAX_VALUE};
        for (int position : positions) {
            String call = "go(" + position + ")";
            check.due(call + " of a new one", new RewindBox(4).go(position), false);
            check.due(call + " after stop()", Boxes.busyStopped(4).go(position), false);
            Twins.stay(check, call, () -> Boxes.busyStopped(4), box -> box.go(position));
        }
    }

    private static void inputsStay(Check check) {
        RewindBox box = Boxes.busyGoneBack(4);
        int[] positions = {5, 0, 70, Boxes.BUSY_END};
        for (int position : positions) {
            check.due("go(" + position + ")", box.go(position), true);
            check.due("record(5)", box.record(5), 2);
        }
        box.step(99);
        check.due("they are taken at the end", box.record(5), 0);
        check.due("the last of them", box.register(1), 62);
        box.go(0);
        check.due("those that were taken do not come back", box.record(5), 0);
    }

    private static void aRingStays(Check check) {
        RewindBox box = Boxes.busyGoneBack(4);
        int[] positions = {5, 0, 70, Boxes.BUSY_END};
        for (int position : positions) {
            check.due("go(" + position + ")", box.go(position), true);
            check.due("record(6)", box.record(6), 1);
        }
        box.step(1);
        check.due("it is taken at the end", box.record(6), 0);
        check.due("log", box.log(Boxes.BUSY_ENTRIES, 0), Boxes.BUSY_END);
        box.go(0);
        check.due("one that was taken does not come back", box.record(6), 0);
    }
}
