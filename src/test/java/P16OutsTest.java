/** Promise 16: outs. */
public final class P16OutsTest {
    private P16OutsTest() {
    }

    public static void main(String[] args) {
        Check check = new Check();
        RewindBox box = new RewindBox(64);
        check.due("outs() of a new one", box.outs(), 0);
        Asm.lay(box, 0, Asm.out(1), Asm.jump(0));
        box.start();
        for (int position = 0; position < 200; position++) {
            check.due("outs() at " + position, box.outs(), (position + 1) / 2);
            box.step(1);
        }
        box.step(10000);
        check.due("outs() at 2559", box.outs(), 1280);
        int[] positions = {0, 1, 2, 64, 127, 128, 129, 130, 2000, 2001, 63, 2559};
        for (int position : positions) {
            box.go(position);
            check.due("outs() gone to " + position, box.outs(), (position + 1) / 2);
        }
        box.go(141);
        box.cut();
        check.due("outs() after a cut", box.outs(), 71);
        box.stop();
        check.due("outs() after stop", box.outs(), 71);
        box.start();
        check.due("outs() after start", box.outs(), 0);
        check.end();
    }
}
