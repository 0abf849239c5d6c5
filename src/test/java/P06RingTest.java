/** Promise 6: ring, and where it is taken. */
public final class P06RingTest {
    private P06RingTest() {
    }

    public static void main(String[] args) {
        Check check = new Check();
        withoutARecord(check);
        theSameOne(check);
        onlyWhenOpen(check);
        insteadOfHaltAndWait(check);
        check.end();
    }

    private static void withoutARecord(Check check) {
        RewindBox box = new RewindBox(4);
        check.due("ring()", box.ring(), false);
        box.poke(0, Asm.OPEN);
        box.start();
        check.due("none came", box.record(6), 0);
        check.due("step(9)", box.step(9), 1);
    }

    private static void theSameOne(Check check) {
        RewindBox box = Asm.started(4, Asm.OPEN, Asm.jump(1), 0, 0, 0, 0, 0, 0, Asm.BACK);
        check.due("ring()", box.ring(), true);
        check.due("ring()", box.ring(), true);
        check.due("ring()", box.ring(), true);
        check.due("record(6)", box.record(6), 1);
        check.due("step(20)", box.step(20), 20);
        check.due("record(6) after it", box.record(6), 0);
        check.due("one entry", box.record(2), 1);
        check.due("its position", box.log(0, 0), 1);
        check.due("ring() again", box.ring(), true);
        check.due("step(1)", box.step(1), 1);
        check.due("two entries", box.record(2), 2);
        check.due("its position", box.log(1, 0), 20);
    }

    private static void onlyWhenOpen(Check check) {
        RewindBox box = Asm.started(4,
            Asm.NOTHING, Asm.OPEN, Asm.CLOSE, Asm.NOTHING, Asm.OPEN, Asm.NOTHING, 0, 0, Asm.set(3, 30), Asm.BACK);
        box.step(3);
        check.due("ring() while closed", box.ring(), true);
        check.due("step(2)", box.step(2), 2);
        check.due("not yet taken", box.record(6), 1);
        check.due("PC", box.register(8), 5);
        check.due("open", box.register(10), 1);
        check.due("step(1)", box.step(1), 1);
        check.due("PC is 8", box.register(8), 8);
        check.due("BACK", box.register(9), 5);
        check.due("not open", box.register(10), 0);
        check.due("taken", box.record(6), 0);
        check.due("ring() in the ring", box.ring(), true);
        check.due("step(2)", box.step(2), 2);
        check.due("PC is BACK", box.register(8), 5);
        check.due("open again", box.register(10), 1);
        check.due("register(3)", box.register(3), 30);
        check.due("step(1)", box.step(1), 1);
        check.due("the next ring", box.register(8), 8);
        check.due("log(1, 0)", box.log(1, 0), 8);
    }

    private static void insteadOfHaltAndWait(Check check) {
        RewindBox box = Asm.started(4, Asm.OPEN, Asm.read(1), 0, 0, 0, 0, 0, 0, Asm.OPEN);
        check.due("it waits", box.step(5), 1);
        box.ring();
        check.due("a ring wakes it, then it halts", box.step(5), 2);
        check.due("PC", box.register(8), 9);
        check.due("BACK", box.register(9), 1);
        box.ring();
        check.due("a ring wakes it from a halt", box.step(1), 1);
        check.due("BACK", box.register(9), 9);
        check.due("entries", box.record(2), 2);
    }
}
