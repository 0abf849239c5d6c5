/** Promise 14: register. */
public final class P14RegisterTest {
    private P14RegisterTest() {
    }

    public static void main(String[] args) {
        Check check = new Check();
        RewindBox box = new RewindBox(4);
        all(check, "before any record", box, 0, 0, 0, 0, 0, 0, 0, 0, 0, 0, 0);
        for (int i = 0; i < 8; i++) {
            box.poke(i, Asm.set(i, 100 + i));
        }
        Asm.lay(box, 8, Asm.OPEN, Asm.NOTHING, Asm.NOTHING);
        all(check, "poked", box, 0, 0, 0, 0, 0, 0, 0, 0, 0, 0, 0);
        box.start();
        all(check, "start", box, 0, 0, 0, 0, 0, 0, 0, 0, 0, 0, 0);
        box.step(5);
        all(check, "step(5)", box, 100, 101, 102, 103, 104, 0, 0, 0, 5, 0, 0);
        box.step(5);
        all(check, "step(5)", box, 100, 101, 102, 103, 104, 105, 106, 107, 10, 0, 1);
        box.ring();
        box.step(1);
        all(check, "a ring", box, 100, 101, 102, 103, 104, 105, 106, 107, 8, 10, 0);
        box.go(3);
        all(check, "go(3)", box, 100, 101, 102, 0, 0, 0, 0, 0, 3, 0, 0);
        box.go(11);
        box.stop();
        all(check, "stop", box, 100, 101, 102, 103, 104, 105, 106, 107, 8, 10, 0);
        box.start();
        all(check, "start again", box, 0, 0, 0, 0, 0, 0, 0, 0, 0, 0, 0);
        check.end();
    }

    private static void all(Check check, String when, RewindBox box, int... due) {
        for (int i = 0; i < due.length; i++) {
            check.due(when + ": register(" + i + ")", box.register(i), due[i]);
        }
        int[] others = {Integer.MIN_VALUE, -8, -1, 11, 12, 16, 512, Integer.MAX_VALUE};
        for (int i : others) {
            check.due(when + ": register(" + i + ")", box.register(i), 0);
        }
    }
}
