/** Promise 16: outs. */
public final class P16OutsTest {
    private P16OutsTest() {
    }

    public static void main(String[] args) {
        Cases cases = Cases.ofPromise(16);
        cases.hold("How many ints went out", P16OutsTest::none);
        cases.hold("How many ints went out", P16OutsTest::moreThanAreKept);
        cases.hold("before the position.", P16OutsTest::goneBack);
        cases.hold("before the position.", P16OutsTest::cutAndStopped);
        cases.end();
    }

    private static RewindBox putting() {
        return Asm.started(64, Asm.out(1), Asm.jump(0));
    }

    private static void none(Check check) {
        check.due("outs() of a new one", new RewindBox(4).outs(), 0);
        check.due("outs() at the beginning", putting().outs(), 0);
        RewindBox halted = Asm.started(4);
        halted.step(5);
        check.due("outs() of one that halts at once", halted.outs(), 0);
        RewindBox refused = putting();
        refused.step(0);
        check.due("outs() after step(0)", refused.outs(), 0);
    }

    private static void moreThanAreKept(Check check) {
        RewindBox box = putting();
        for (int position = 0; position < 200; position++) {
            check.due("outs() at " + position, box.outs(), (position + 1) / 2);
            box.step(1);
        }
        box.step(10000);
        check.due("outs() at 2559", box.outs(), 1280);
    }

    private static void goneBack(Check check) {
        RewindBox box = putting();
        box.step(10000);
        int[] positions = {0, 1, 2, 63, 64, 65, 126, 127, 128, 129, 130, 2000, 2001, 3, 2558, 2559};
        for (int position : positions) {
            box.go(position);
            check.due("outs() gone to " + position, box.outs(), (position + 1) / 2);
        }
        box.go(127);
        box.step(2);
        check.due("outs() by the log", box.outs(), 65);
    }

    private static void cutAndStopped(Check check) {
        RewindBox box = putting();
        box.step(10000);
        box.go(141);
        box.cut();
        check.due("outs() after a cut", box.outs(), 71);
        box.stop();
        check.due("outs() after stop()", box.outs(), 71);
        box.start();
        check.due("outs() after start()", box.outs(), 0);
    }
}
