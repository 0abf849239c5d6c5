/** Promise 11: record. */
public final class P11RecordTest {
    private P11RecordTest() {
    }

    public static void main(String[] args) {
        Check check = new Check();
        RewindBox box = new RewindBox(3);
        all(check, "no record", box, -1, -1, -1, -1, -1, -1, -1);
        Asm.lay(box, 0, Asm.OPEN, Asm.read(1), Asm.store(1, 0, 100), Asm.store(1, 0, 120), Asm.jump(1));
        Asm.lay(box, 8, Asm.BACK);
        box.start();
        all(check, "start", box, 0, 0, 0, 1, 0, 0, 0);
        box.give(4);
        box.give(5);
        box.give(6);
        box.ring();
        all(check, "given", box, 0, 0, 0, 1, 0, 3, 1);
        box.step(2);
        all(check, "step(2)", box, 2, 2, 1, 1, 0, 3, 0);
        box.step(1);
        all(check, "step(1)", box, 3, 3, 1, 2, 0, 3, 0);
        box.step(4);
        all(check, "step(4)", box, 7, 7, 2, 3, 2, 2, 0);
        box.step(4);
        all(check, "step(4)", box, 11, 11, 3, 4, 3, 1, 0);
        box.step(2);
        all(check, "step(2)", box, 13, 13, 4, 5, 4, 0, 0);
        box.go(7);
        all(check, "go(7)", box, 7, 13, 4, 5, 4, 0, 0);
        box.ring();
        all(check, "ring()", box, 7, 13, 4, 5, 4, 0, 1);
        box.cut();
        all(check, "cut()", box, 7, 7, 2, 3, 2, 0, 1);
        box.stop();
        all(check, "stop()", box, -1, -1, -1, -1, -1, -1, -1);
        check.end();
    }

    private static void all(Check check, String when, RewindBox box, int... due) {
        for (int what = 0; what < due.length; what++) {
            check.due(when + ": record(" + what + ")", box.record(what), due[what]);
        }
        int[] others = {Integer.MIN_VALUE, -2, -1, 7, 8, 100, Integer.MAX_VALUE};
        for (int what : others) {
            check.due(when + ": record(" + what + ")", box.record(what), RewindBox.NONE);
        }
    }
}
