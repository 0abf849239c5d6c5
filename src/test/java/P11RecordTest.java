/** Promise 11: record. */
public final class P11RecordTest {
    private P11RecordTest() {
    }

    public static void main(String[] args) {
        Cases cases = Cases.ofPromise(11);
        cases.hold("Of the record,", P11RecordTest::allOfThem);
        cases.hold("what 0: the position,", P11RecordTest::position);
        cases.hold("1: the end,", P11RecordTest::end);
        cases.hold("2: entries of the log,", P11RecordTest::entries);
        cases.hold("3: snapshots,", P11RecordTest::snapshots);
        cases.hold("4: pages of all snapshots,", P11RecordTest::pages);
        cases.hold("5: inputs that wait,", P11RecordTest::inputs);
        cases.hold("6: 1 if a ring came and was not taken, else 0;", P11RecordTest::ring);
        cases.hold("NONE without a record,", P11RecordTest::withoutARecord);
        cases.hold("or for another what.", P11RecordTest::anotherWhat);
        cases.end();
    }

    private static RewindBox prepared() {
        RewindBox box = new RewindBox(3);
        Asm.lay(box, 0, Asm.OPEN, Asm.read(1), Asm.store(1, 0, 100), Asm.store(1, 0, 120), Asm.jump(1));
        Asm.lay(box, 8, Asm.BACK);
        return box;
    }

    private static void all(Check check, String when, RewindBox box, int... due) {
        for (int what = 0; what < due.length; what++) {
            check.due(when + ": record(" + what + ")", box.record(what), due[what]);
        }
    }

    private static void allOfThem(Check check) {
        RewindBox box = prepared();
        all(check, "no record", box, -1, -1, -1, -1, -1, -1, -1);
        box.start();
        all(check, "start", box, 0, 0, 0, 1, 0, 0, 0);
        box.give(4);
        box.give(5);
        box.give(6);
        box.ring();
        all(check, "given", box, 0, 0, 0, 1, 0, 3, 1);
        box.step(2);
        all(check, "step(2)", box, 2, 2, 1, 1, 0, 3, 0);
        box.step(1);
        all(check, "step(1)", box, 3, 3, 1, 2, 0, 3, 0);
        box.step(4);
        all(check, "step(4)", box, 7, 7, 2, 3, 2, 2, 0);
        box.step(4);
        all(check, "step(4)", box, 11, 11, 3, 4, 3, 1, 0);
        box.step(2);
        all(check, "step(2)", box, 13, 13, 4, 5, 4, 0, 0);
        box.go(7);
        all(check, "go(7)", box, 7, 13, 4, 5, 4, 0, 0);
        box.ring();
        all(check, "ring()", box, 7, 13, 4, 5, 4, 0, 1);
        box.cut();
        all(check, "cut()", box, 7, 7, 2, 3, 2, 0, 1);
        box.stop();
        all(check, "stop()", box, -1, -1, -1, -1, -1, -1, -1);
    }

    private static void position(Check check) {
        RewindBox box = Boxes.spinning(64);
        check.due("at the beginning", box.record(0), 0);
        box.step(1);
        check.due("a step", box.record(0), 1);
        box.step(9999);
        check.due("full", box.record(0), 2559);
        box.go(0);
        check.due("gone back", box.record(0), 0);
        box.step(64);
        check.due("by the log", box.record(0), 64);
    }

    private static void end(Check check) {
        RewindBox box = Boxes.spinning(64);
        check.due("at the beginning", box.record(1), 0);
        box.step(1);
        check.due("a step", box.record(1), 1);
        box.step(9999);
        check.due("full", box.record(1), 2559);
        box.go(0);
        box.step(64);
        check.due("gone back", box.record(1), 2559);
    }

    private static void entries(Check check) {
        RewindBox box = Boxes.reading(64);
        check.due("empty", box.record(2), 0);
        Boxes.give(box, 100);
        check.due("given is not logged", box.record(2), 0);
        box.step(200);
        check.due("100", box.record(2), 100);
        Boxes.give(box, 100);
        box.step(200);
        Boxes.give(box, 100);
        box.step(200);
        check.due("full", box.record(2), 300);
        box.go(0);
        check.due("gone back", box.record(2), 300);
    }

    private static void snapshots(Check check) {
        RewindBox box = Boxes.spinning(4);
        for (int position = 0; position <= 159; position++) {
            check.due("at " + position, box.record(3), position / 4 + 1);
            box.step(1);
        }
        box.go(0);
        check.due("gone back", box.record(3), 40);
    }

    private static void pages(Check check) {
        RewindBox box = Asm.started(2, Asm.store(0, 0, 100), Asm.jump(0));
        for (int k = 0; k < 40; k++) {
            check.due("at snapshot " + k, box.record(4), k);
            box.step(1);
            check.due("not yet", box.record(4), k);
            box.step(1);
        }
        box.go(0);
        check.due("gone back", box.record(4), 39);
    }

    private static void inputs(Check check) {
        RewindBox box = Boxes.reading(4);
        check.due("none", box.record(5), 0);
        Boxes.give(box, 101);
        check.due("100 at most", box.record(5), 100);
        box.step(1);
        check.due("one is taken", box.record(5), 99);
        box.step(1);
        check.due("none is taken", box.record(5), 99);
    }

    private static void ring(Check check) {
        RewindBox box = Asm.started(4, Asm.NOTHING, Asm.OPEN, Asm.jump(2), 0, 0, 0, 0, 0, Asm.jump(8));
        check.due("none", box.record(6), 0);
        box.ring();
        box.ring();
        check.due("it came", box.record(6), 1);
        box.step(2);
        check.due("not taken yet", box.record(6), 1);
        box.step(1);
        check.due("taken", box.record(6), 0);
        box.go(2);
        check.due("gone back", box.record(6), 0);
    }

    private static void withoutARecord(Check check) {
        for (int what = -1; what <= 7; what++) {
            check.due("record(" + what + ") of a new one", new RewindBox(4).record(what), RewindBox.NONE);
            check.due("record(" + what + ") after stop()", Boxes.busyStopped(4).record(what), RewindBox.NONE);
        }
    }

    private static void anotherWhat(Check check) {
        int[] others = {-1, -2, -7, 7, 8, 9, 100, 256, Integer.MIN_VALUE, Integer.MAX_VALUE};
        for (int what : others) {
            check.due("record(" + what + ") at the beginning", Boxes.spinning(4).record(what), RewindBox.NONE);
            check.due("record(" + what + ")", Boxes.busyGoneBack(4).record(what), RewindBox.NONE);
        }
    }
}
