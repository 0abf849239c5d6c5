/** Promise 17: out. */
public final class P17OutTest {
    private P17OutTest() {
    }

    public static void main(String[] args) {
        Check check = new Check();
        check.due("out(0) of a new one", new RewindBox(4).out(0), 0);
        firstSixtyFour(check);
        goneBackAndCut(check);
        check.end();
    }

    private static RewindBox counting() {
        return Asm.started(10, Asm.position(1), Asm.out(1), Asm.jump(0));
    }

    private static void firstSixtyFour(Check check) {
        RewindBox box = counting();
        box.step(3 * 70);
        check.due("outs()", box.outs(), 70);
        for (int i = 0; i < 64; i++) {
            check.due("out(" + i + ")", box.out(i), 3 * i);
        }
        int[] others = {Integer.MIN_VALUE, -1, 64, 65, 69, 70, 71, Integer.MAX_VALUE};
        for (int i : others) {
            check.due("out(" + i + ")", box.out(i), 0);
        }
        box.stop();
        check.due("out(63) after stop", box.out(63), 189);
        box.start();
        check.due("out(0) after start", box.out(0), 0);
    }

    private static void goneBackAndCut(Check check) {
        RewindBox box = Asm.started(4, Asm.read(1), Asm.out(1), Asm.jump(0));
        box.give(11);
        box.give(12);
        box.give(13);
        box.step(99);
        box.go(4);
        check.due("out(0) before it", box.out(0), 11);
        check.due("out(1) behind it", box.out(1), 0);
        box.go(5);
        check.due("out(1) before it", box.out(1), 12);
        check.due("out(2) behind it", box.out(2), 0);
        box.go(3);
        box.cut();
        box.give(99);
        box.step(2);
        check.due("out(1) another one", box.out(1), 99);
        check.due("out(2)", box.out(2), 0);
        box.go(0);
        check.due("out(0) at 0", box.out(0), 0);
        box.step(100);
        check.due("out(0) by the log", box.out(0), 11);
        check.due("out(1) by the log", box.out(1), 99);
    }
}
