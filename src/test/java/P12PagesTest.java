/** Promise 12: pages. */
public final class P12PagesTest {
    private P12PagesTest() {
    }

    public static void main(String[] args) {
        Cases cases = Cases.ofPromise(12);
        cases.hold("How many pages snapshot k, from 0 on, has", P12PagesTest::counts);
        cases.hold("How many pages snapshot k, from 0 on, has", P12PagesTest::allThirtyTwo);
        cases.hold("How many pages snapshot k, from 0 on, has", P12PagesTest::goneBack);
        cases.hold("(the first one 0);", P12PagesTest::theFirstOne);
        cases.hold("NONE if there is none such,", P12PagesTest::tooSmall);
        cases.hold("NONE if there is none such,", P12PagesTest::tooLarge);
        cases.hold("or no record.", P12PagesTest::withoutARecord);
        cases.end();
    }

    private static RewindBox counting() {
        RewindBox box = Asm.started(4,
            Asm.set(2, 200), Asm.store(2, 2, 0), Asm.store(2, 2, 7), Asm.store(2, 2, 8),
            Asm.NOTHING, Asm.load(1, 2, 30), Asm.NOTHING, Asm.out(1),
            Asm.store(1, 0, 50), Asm.load(1, 0, 50), Asm.store(1, 0, 50), Asm.NOTHING,
            Asm.store(1, 2, 20), Asm.store(1, 2, 36));
        box.step(100);
        return box;
    }

    private static void counts(Check check) {
        RewindBox box = counting();
        check.due("two pages, one of them twice", box.pages(1), 2);
        check.due("none", box.pages(2), 0);
        check.due("the same word as before", box.pages(3), 1);
    }

    /** A store into each page; those over the program come when it has been gone through. */
    private static void allThirtyTwo(Check check) {
        RewindBox box = new RewindBox(64);
        Asm.lay(box, 0, Asm.set(1, 128), Asm.set(2, 384), Asm.jump(16));
        for (int i = 0; i < 32; i++) {
            int at = (i + 3) % 32 * 16 + 15;
            box.poke(16 + i, Asm.store(1, at < 256 ? 1 : 2, at < 256 ? at - 128 : at - 384));
        }
        Asm.lay(box, 48, Asm.jump(48));
        box.start();
        check.due("step(128)", box.step(128), 128);
        check.due("all pages", box.pages(1), 32);
        check.due("none", box.pages(2), 0);
        check.due("pages of all", box.record(4), 32);
        box.go(0);
        box.go(128);
        for (int page = 0; page < 32; page++) {
            check.due("page " + page, box.word(page * 16 + 15), 128);
        }
    }

    private static void goneBack(Check check) {
        RewindBox box = counting();
        box.go(1);
        check.due("pages(1) from position 1", box.pages(1), 2);
        check.due("pages(3) from position 1", box.pages(3), 1);
        box.cut();
        check.due("pages(1) after a cut", box.pages(1), RewindBox.NONE);
        check.due("pages(0) after a cut", box.pages(0), 0);
    }

    private static void theFirstOne(Check check) {
        RewindBox fresh = new RewindBox(4);
        fresh.poke(3, 7);
        fresh.start();
        check.due("pages(0) at the beginning", fresh.pages(0), 0);
        RewindBox box = counting();
        check.due("pages(0)", box.pages(0), 0);
        box.start();
        check.due("pages(0) of the next record", box.pages(0), 0);
    }

    private static void tooSmall(Check check) {
        int[] numbers = {-1, -2, -40, Integer.MIN_VALUE};
        for (int k : numbers) {
            check.due("pages(" + k + ")", counting().pages(k), RewindBox.NONE);
        }
    }

    private static void tooLarge(Check check) {
        check.due("pages(1) at the beginning", Boxes.spinning(4).pages(1), RewindBox.NONE);
        int[] numbers = {4, 5, 39, 40, 41, 64, Integer.MAX_VALUE};
        for (int k : numbers) {
            check.due("pages(" + k + ")", counting().pages(k), RewindBox.NONE);
        }
        RewindBox box = Boxes.spinning(4);
        box.step(3);
        check.due("pages(1) not yet", box.pages(1), RewindBox.NONE);
        box.step(1);
        check.due("pages(1)", box.pages(1), 0);
        box.step(9999);
        check.due("pages(39)", box.pages(39), 0);
        check.due("pages(40)", box.pages(40), RewindBox.NONE);
    }

    private static void withoutARecord(Check check) {
        RewindBox stopped = counting();
        stopped.stop();
        for (int k = -1; k <= 4; k++) {
            check.due("pages(" + k + ") of a new one", new RewindBox(4).pages(k), RewindBox.NONE);
            check.due("pages(" + k + ") after stop()", stopped.pages(k), RewindBox.NONE);
        }
    }
}
