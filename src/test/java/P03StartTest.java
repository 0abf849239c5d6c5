/** Promise 3: start, and what a record begins with. */
public final class P03StartTest {
    private P03StartTest() {
    }

    public static void main(String[] args) {
        Check check = new Check();
        beginning(check);
        aFormerOneEnds(check);
        memoryAsItIsNow(check);
        afterAStop(check);
        nothingIsLeftOpenOrWritten(check);
        check.end();
    }

    private static RewindBox busy() {
        RewindBox box = Asm.started(2,
            Asm.OPEN, Asm.read(1), Asm.store(1, 0, 100), Asm.out(1), Asm.jump(1), 0, 0, 0, Asm.set(2, 5), Asm.jump(8));
        box.give(77);
        box.step(3);
        box.ring();
        box.step(4);
        box.give(78);
        box.give(79);
        box.ring();
        return box;
    }

    private static void beginsEmpty(Check check, RewindBox box, String when) {
        int[] due = {0, 0, 0, 1, 0, 0, 0};
        for (int what = 0; what < due.length; what++) {
            check.due(when + "record(" + what + ")", box.record(what), due[what]);
        }
        for (int i = 0; i <= 10; i++) {
            check.due(when + "register(" + i + ")", box.register(i), 0);
        }
        check.due(when + "outs()", box.outs(), 0);
        check.due(when + "out(0)", box.out(0), 0);
        check.due(when + "log(0, 0)", box.log(0, 0), RewindBox.NONE);
        check.due(when + "pages(0)", box.pages(0), 0);
        check.due(when + "pages(1)", box.pages(1), RewindBox.NONE);
    }

    private static void beginning(Check check) {
        RewindBox box = new RewindBox(2);
        box.start();
        beginsEmpty(check, box, "first: ");
    }

    private static void aFormerOneEnds(Check check) {
        RewindBox box = busy();
        check.due("position", box.record(0), 7);
        check.due("BACK", box.register(9), 3);
        check.due("inputs that wait", box.record(5), 2);
        check.due("a ring", box.record(6), 1);
        box.start();
        beginsEmpty(check, box, "again: ");
        check.due("word(100)", box.word(100), 77);
        check.due("go(1)", box.go(1), false);
        check.due("it waits for a new input", box.step(9), 1);
        check.due("no ring is left", box.record(0), 1);
    }

    private static void memoryAsItIsNow(Check check) {
        RewindBox box = busy();
        box.go(2);
        box.start();
        check.due("word(100) at position 2", box.word(100), 0);
        box.give(5);
        box.step(3);
        check.due("word(100) then", box.word(100), 5);
        box.start();
        check.due("word(100) of the next one", box.word(100), 5);
        box.give(6);
        box.step(3);
        check.due("word(100) changed", box.word(100), 6);
        check.due("go(0)", box.go(0), true);
        check.due("word(100) gone back", box.word(100), 5);
    }

    private static void afterAStop(Check check) {
        RewindBox box = busy();
        box.stop();
        box.start();
        beginsEmpty(check, box, "after stop: ");
        check.due("poke in it", box.poke(0, 0), false);
    }

    private static void nothingIsLeftOpenOrWritten(Check check) {
        RewindBox box = Asm.started(4, Asm.OPEN, Asm.store(0, 0, 100), Asm.NOTHING, Asm.jump(2));
        box.step(3);
        check.due("open", box.register(10), 1);
        box.start();
        check.due("not open any more", box.register(10), 0);
        box.stop();
        box.poke(1, Asm.NOTHING);
        box.start();
        box.step(4);
        check.due("pages(1), none of a former record", box.pages(1), 0);
        box.step(1);
        box.start();
        box.ring();
        check.due("step(1)", box.step(1), 1);
        check.due("a ring waits until it is open", box.record(6), 1);
    }
}
