/** Promise 6: ring. */
public final class P06RingTest {
    private P06RingTest() {
    }

    public static void main(String[] args) {
        Cases cases = Cases.ofPromise(6);
        cases.hold("A ring comes", P06RingTest::comes);
        cases.hold("A ring comes", P06RingTest::goneBack);
        cases.hold("(one that was not yet taken is the same one): true;", P06RingTest::theSameOne);
        cases.hold("(one that was not yet taken is the same one): true;", P06RingTest::anotherOneInIt);
        cases.hold("false without a record.", P06RingTest::withoutARecord);
        cases.end();
    }

    private static RewindBox open() {
        return Asm.started(4, Asm.OPEN, Asm.jump(1), 0, 0, 0, 0, 0, 0, Asm.NOTHING, Asm.BACK);
    }

    private static void comes(Check check) {
        RewindBox box = open();
        check.due("none came", box.record(6), 0);
        check.due("ring()", box.ring(), true);
        check.due("it came", box.record(6), 1);
        check.due("no entry yet", box.record(2), 0);
        check.due("step(2)", box.step(2), 2);
        check.due("it is taken", box.record(6), 0);
        check.due("PC", box.register(8), 8);
    }

    private static void goneBack(Check check) {
        RewindBox box = open();
        box.step(10);
        box.go(5);
        check.due("ring()", box.ring(), true);
        check.due("it came", box.record(6), 1);
        check.due("step(5)", box.step(5), 5);
        check.due("it waits for the end", box.record(6), 1);
        box.step(1);
        check.due("log(0, 0)", box.log(0, 0), 10);
    }

    private static void theSameOne(Check check) {
        RewindBox box = open();
        for (int i = 0; i < 5; i++) {
            check.due("ring()", box.ring(), true);
            check.due("record(6)", box.record(6), 1);
        }
        check.due("step(20)", box.step(20), 20);
        check.due("record(6) after it", box.record(6), 0);
        check.due("one entry", box.record(2), 1);
        Twins.stay(check, "ring() again", () -> Boxes.busyGoneBack(4), RewindBox::ring);
    }

    private static void anotherOneInIt(Check check) {
        RewindBox box = open();
        box.ring();
        box.step(2);
        check.due("taken", box.record(2), 1);
        check.due("ring() in the ring", box.ring(), true);
        check.due("record(6)", box.record(6), 1);
        check.due("step(3): its end, then the next one", box.step(3), 3);
        check.due("entries", box.record(2), 2);
        check.due("log(1, 0)", box.log(1, 0), 4);
        check.due("log(1, 1)", box.log(1, 1), 2);
        check.due("record(6)", box.record(6), 0);
    }

    private static void withoutARecord(Check check) {
        RewindBox box = new RewindBox(4);
        check.due("ring() of a new one", box.ring(), false);
        box.poke(0, Asm.OPEN);
        box.start();
        check.due("none came", box.record(6), 0);
        check.due("step(9)", box.step(9), 1);
        RewindBox stopped = Boxes.busyStopped(4);
        check.due("ring() after stop()", stopped.ring(), false);
        stopped.start();
        check.due("none came", stopped.record(6), 0);
        Twins.stay(check, "ring()", () -> Boxes.busyStopped(4), RewindBox::ring);
    }
}
