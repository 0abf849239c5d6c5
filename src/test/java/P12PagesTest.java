/** Promise 12: pages. */
public final class P12PagesTest {
    private P12PagesTest() {
    }

    public static void main(String[] args) {
        Check check = new Check();
        check.due("pages(0) without a record", new RewindBox(4).pages(0), RewindBox.NONE);
        counts(check);
        all32(check);
        theLastStepCounts(check);
        check.end();
    }

    private static void counts(Check check) {
        RewindBox box = Asm.started(4,
            Asm.set(2, 200), Asm.store(2, 2, 0), Asm.store(2, 2, 7), Asm.store(2, 2, 8),
            Asm.NOTHING, Asm.load(1, 2, 30), Asm.NOTHING, Asm.out(1),
            Asm.store(1, 0, 50), Asm.load(1, 0, 50), Asm.store(1, 0, 50), Asm.NOTHING,
            Asm.store(1, 2, 20), Asm.store(1, 2, 36));
        check.due("pages(0)", box.pages(0), 0);
        check.due("pages(1) not yet", box.pages(1), RewindBox.NONE);
        box.step(3);
        check.due("pages(1) not yet", box.pages(1), RewindBox.NONE);
        box.step(97);
        check.due("two pages, one of them twice", box.pages(1), 2);
        check.due("none", box.pages(2), 0);
        check.due("the same word as before", box.pages(3), 1);
        check.due("pages(4) not yet", box.pages(4), RewindBox.NONE);
        check.due("pages(0) still", box.pages(0), 0);
        int[] wrong = {Integer.MIN_VALUE, -1, 5, 39, 40, 41, Integer.MAX_VALUE};
        for (int k : wrong) {
            check.due("pages(" + k + ")", box.pages(k), RewindBox.NONE);
        }
        box.go(1);
        check.due("pages(3) from position 1", box.pages(3), 1);
        box.cut();
        check.due("pages(1) after a cut", box.pages(1), RewindBox.NONE);
        box.stop();
        check.due("pages(0) after stop", box.pages(0), RewindBox.NONE);
    }

    /** A store into each page; those over the program come when it has been gone through. */
    private static void all32(Check check) {
        RewindBox box = new RewindBox(64);
        Asm.lay(box, 0, Asm.set(1, 128), Asm.set(2, 384), Asm.jump(16));
        for (int i = 0; i < 32; i++) {
            int at = (i + 3) % 32 * 16 + 15;
            box.poke(16 + i, Asm.store(1, at < 256 ? 1 : 2, at < 256 ? at - 128 : at - 384));
        }
        Asm.lay(box, 48, Asm.jump(48));
        box.start();
        check.due("step(128)", box.step(128), 128);
        check.due("all pages", box.pages(1), 32);
        check.due("none", box.pages(2), 0);
        check.due("pages of all", box.record(4), 32);
        box.go(0);
        box.go(128);
        for (int page = 0; page < 32; page++) {
            check.due("page " + page, box.word(page * 16 + 15), 128);
        }
    }

    private static void theLastStepCounts(Check check) {
        RewindBox box = Asm.started(2, Asm.NOTHING, Asm.store(1, 0, 127), Asm.store(1, 0, 127), Asm.NOTHING);
        box.step(9);
        check.due("the step that comes to the snapshot", box.pages(1), 1);
        check.due("the step that leaves it", box.pages(2), 1);
        check.due("record(4)", box.record(4), 2);
    }
}
