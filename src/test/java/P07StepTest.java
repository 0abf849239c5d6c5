/** Promise 7: step. */
public final class P07StepTest {
    private P07StepTest() {
    }

    public static void main(String[] args) {
        Check check = new Check();
        withoutARecord(check);
        numbers(check);
        halts(check);
        waits(check);
        throughTheEnd(check);
        check.end();
    }

    private static void withoutARecord(Check check) {
        RewindBox box = new RewindBox(4);
        box.poke(0, Asm.jump(0));
        check.due("step(1)", box.step(1), RewindBox.NONE);
        check.due("step(0)", box.step(0), RewindBox.NONE);
        check.due("step(-1)", box.step(-1), RewindBox.NONE);
    }

    private static void numbers(Check check) {
        RewindBox box = Asm.started(64, Asm.jump(0));
        check.due("step(0)", box.step(0), 0);
        check.due("step(-1)", box.step(-1), 0);
        check.due("step(MIN)", box.step(Integer.MIN_VALUE), 0);
        check.due("step(1)", box.step(1), 1);
        check.due("step(2000)", box.step(2000), 2000);
        check.due("record(0)", box.record(0), 2001);
        check.due("step(10000)", box.step(10000), 558);
        check.due("full: step(10001)", box.step(10001), 0);
        box.go(0);
        check.due("step(10001)", box.step(10001), 2559);
        box.go(1);
        check.due("step(MAX)", box.step(Integer.MAX_VALUE), 2558);
        check.due("record(1)", box.record(1), 2559);
    }

    private static void halts(Check check) {
        RewindBox box = Asm.started(2, Asm.set(1, 9), Asm.NOTHING);
        check.due("step(1)", box.step(1), 1);
        check.due("step(50)", box.step(50), 1);
        check.due("PC stays", box.register(8), 2);
        check.due("step(50)", box.step(50), 0);
        check.due("PC stays", box.register(8), 2);
        check.due("record(0)", box.record(0), 2);
    }

    private static void waits(Check check) {
        RewindBox box = Asm.started(2, Asm.NOTHING, Asm.read(4), Asm.read(5));
        check.due("step(9)", box.step(9), 1);
        check.due("PC stays", box.register(8), 1);
        check.due("step(9)", box.step(9), 0);
        box.give(31);
        check.due("step(9)", box.step(9), 1);
        check.due("register(4)", box.register(4), 31);
        check.due("PC stays", box.register(8), 2);
        check.due("no entry for waiting", box.record(2), 1);
    }

    private static void throughTheEnd(Check check) {
        RewindBox box = Asm.started(4, Asm.read(1), Asm.add(2, 2, 1), Asm.jump(0));
        box.give(10);
        box.give(20);
        check.due("step(99)", box.step(99), 6);
        box.give(30);
        box.go(1);
        check.due("step(99) by the log and live", box.step(99), 8);
        check.due("record(0)", box.record(0), 9);
        check.due("record(1)", box.record(1), 9);
        check.due("register(2)", box.register(2), 60);
        box.go(1);
        check.due("step(3)", box.step(3), 3);
        check.due("the end stays", box.record(1), 9);
        check.due("record(0)", box.record(0), 4);
    }
}
