/** Promise 13: log. */
public final class P13LogTest {
    private P13LogTest() {
    }

    public static void main(String[] args) {
        Check check = new Check();
        RewindBox box = new RewindBox(4);
        entry(check, box, 0, -1, -1, -1);
        Asm.lay(box, 0, Asm.OPEN, Asm.read(1), Asm.NOTHING, Asm.jump(1));
        Asm.lay(box, 8, Asm.NOTHING, Asm.BACK);
        box.start();
        entry(check, box, 0, -1, -1, -1);
        box.give(42);
        box.ring();
        check.due("not logged when it comes", box.record(2), 0);
        box.step(2);
        entry(check, box, 0, 1, 2, 0);
        entry(check, box, 1, -1, -1, -1);
        box.give(-1);
        box.give(Integer.MIN_VALUE);
        box.step(100);
        box.ring();
        box.step(1);
        everyEntry(check, box);
        box.go(0);
        everyEntry(check, box);
        box.step(7);
        everyEntry(check, box);
        wrong(check, box);
        box.cut();
        entry(check, box, 1, 4, 1, 42);
        entry(check, box, 2, -1, -1, -1);
        box.stop();
        entry(check, box, 0, -1, -1, -1);
        check.end();
    }

    private static void everyEntry(Check check, RewindBox box) {
        entry(check, box, 0, 1, 2, 0);
        entry(check, box, 1, 4, 1, 42);
        entry(check, box, 2, 7, 1, -1);
        entry(check, box, 3, 10, 1, Integer.MIN_VALUE);
        entry(check, box, 4, 13, 2, 0);
        entry(check, box, 5, -1, -1, -1);
    }

    private static void entry(Check check, RewindBox box, int i, int... due) {
        for (int what = 0; what < due.length; what++) {
            check.due("log(" + i + ", " + what + ")", box.log(i, what), due[what]);
        }
    }

    private static void wrong(Check check, RewindBox box) {
        int[] others = {Integer.MIN_VALUE, -1, 3, 299, 300, 301, Integer.MAX_VALUE};
        for (int other : others) {
            check.due("log(0, " + other + ")", box.log(0, other), RewindBox.NONE);
            if (other != 3) {
                entry(check, box, other, -1, -1, -1);
            }
        }
    }
}
