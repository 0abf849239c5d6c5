/** Promise 7: step. */
public final class P07StepTest {
    private P07StepTest() {
    }

    public static void main(String[] args) {
        Cases cases = Cases.ofPromise(7);
        cases.hold("Steps, n at most", P07StepTest::nAtMost);
        cases.hold("Steps, n at most", P07StepTest::noneOrFewer);
        cases.hold("(10,000, if n is more),", P07StepTest::tenThousand);
        cases.hold("until it halts,", P07StepTest::halts);
        cases.hold("waits,", P07StepTest::waits);
        cases.hold("or is full:", P07StepTest::isFull);
        cases.hold("how many were done.", P07StepTest::byTheLogAndLive);
        cases.hold("NONE without a record.", P07StepTest::withoutARecord);
        cases.end();
    }

    private static void nAtMost(Check check) {
        RewindBox box = Boxes.spinning(64);
        int position = 0;
        for (int n = 1; n <= 70; n++) {
            check.due("step(" + n + ")", box.step(n), n);
            position += n;
            check.due("record(0)", box.record(0), position);
        }
        box.go(100);
        check.due("step(7) by the log", box.step(7), 7);
        check.due("record(0)", box.record(0), 107);
    }

    private static void noneOrFewer(Check check) {
        int[] numbers = {0, -1, -2, -10000, -10001, Integer.MIN_VALUE};
        for (int n : numbers) {
            check.due("step(" + n + ")", Boxes.spinning(4).step(n), 0);
            check.due("step(" + n + ") gone back", Boxes.busyGoneBack(4).step(n), 0);
            Twins.stay(check, "step(" + n + ")", () -> Boxes.busyGoneBack(4), box -> box.step(n));
        }
    }

    /** A record ends at 40 * 64 - 1 steps, so that no call can do more than that. */
    private static void tenThousand(Check check) {
        int[] numbers = {2559, 2560, 9999, 10000, 10001, 20000, 65536, Integer.MAX_VALUE};
        for (int n : numbers) {
            RewindBox box = Boxes.spinning(64);
            check.due("step(" + n + ")", box.step(n), 2559);
            check.due("record(1)", box.record(1), 2559);
            box.go(0);
            check.due("step(" + n + ") by the log", box.step(n), 2559);
            box.go(2559);
            check.due("step(" + n + ") at the end", box.step(n), 0);
        }
    }

    private static void halts(Check check) {
        RewindBox box = Asm.started(2, Asm.set(1, 9), Asm.NOTHING);
        check.due("step(1)", box.step(1), 1);
        check.due("step(50)", box.step(50), 1);
        check.due("PC stays", box.register(8), 2);
        check.due("step(50)", box.step(50), 0);
        check.due("PC stays", box.register(8), 2);
        check.due("record(0)", box.record(0), 2);
        box.go(0);
        check.due("step(50) by the log", box.step(50), 2);
        RewindBox empty = Asm.started(2);
        check.due("step(1) of an empty memory", empty.step(1), 0);
        check.due("record(1)", empty.record(1), 0);
    }

    private static void waits(Check check) {
        RewindBox box = Asm.started(2, Asm.NOTHING, Asm.read(4), Asm.read(5));
        check.due("step(9)", box.step(9), 1);
        check.due("PC stays", box.register(8), 1);
        check.due("step(9)", box.step(9), 0);
        check.due("record(0)", box.record(0), 1);
        box.give(31);
        check.due("step(9)", box.step(9), 1);
        check.due("register(4)", box.register(4), 31);
        check.due("PC stays", box.register(8), 2);
        check.due("no entry for waiting", box.record(2), 1);
    }

    private static void isFull(Check check) {
        RewindBox box = Boxes.spinning(2);
        check.due("step(78)", box.step(78), 78);
        check.due("step(5)", box.step(5), 1);
        check.due("step(5)", box.step(5), 0);
        check.due("record(0)", box.record(0), 79);
        box.go(70);
        check.due("step(50) by the log", box.step(50), 9);
    }

    private static void byTheLogAndLive(Check check) {
        RewindBox box = Asm.started(4, Asm.read(1), Asm.add(2, 2, 1), Asm.jump(0));
        box.give(10);
        box.give(20);
        check.due("step(99)", box.step(99), 6);
        box.give(30);
        box.go(1);
        check.due("step(5): to the end", box.step(5), 5);
        check.due("record(5)", box.record(5), 1);
        box.go(1);
        check.due("step(6): one more", box.step(6), 6);
        check.due("record(5)", box.record(5), 0);
        box.go(1);
        check.due("step(99)", box.step(99), 8);
        check.due("record(0)", box.record(0), 9);
        check.due("record(1)", box.record(1), 9);
        check.due("register(2)", box.register(2), 60);
    }

    private static void withoutARecord(Check check) {
        int[] numbers = {1, 0, -1, 10000, 10001, Integer.MIN_VALUE, Integer.MAX_VALUE};
        for (int n : numbers) {
            RewindBox box = new RewindBox(4);
            box.poke(0, Asm.jump(5));
            check.due("step(" + n + ") of a new one", box.step(n), RewindBox.NONE);
            check.due("PC", box.register(8), 0);
            check.due("step(" + n + ") after stop()", Boxes.busyStopped(4).step(n), RewindBox.NONE);
            Twins.stay(check, "step(" + n + ")", () -> Boxes.busyStopped(4), twin -> twin.step(n));
        }
    }
}
