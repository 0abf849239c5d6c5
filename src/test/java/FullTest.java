/** Terms: FULL by 300 entries, by 40 snapshots, by 300 pages. */
public final class FullTest {
    private FullTest() {
    }

    public static void main(String[] args) {
        Check check = new Check();
        for (int interval = 2; interval <= 64; interval++) {
            fortySnapshots(check, interval);
        }
        threeHundredInputs(check);
        threeHundredWithRings(check);
        threeHundredPages(check);
        theStepThatStores(check);
        check.end();
    }

    private static void fortySnapshots(Check check, int interval) {
        RewindBox box = Asm.started(interval, Asm.add(1, 1, 2), Asm.jump(0));
        String made = "interval " + interval + ": ";
        int last = 40 * interval - 1;
        check.due(made + "step(10000)", box.step(10000), last);
        check.due(made + "record(3)", box.record(3), 40);
        check.due(made + "step(1)", box.step(1), 0);
        check.due(made + "PC stays", box.register(8), last % 2);
        check.due(made + "go(before)", box.go(last - 3), true);
        check.due(made + "by the log", box.step(10), 3);
        check.due(made + "go(snapshot 39)", box.go(39 * interval), true);
        check.due(made + "pages(39)", box.pages(39), 0);
        check.due(made + "pages(40)", box.pages(40), RewindBox.NONE);
        box.go(38 * interval + 1);
        box.cut();
        check.due(made + "record(3) after a cut", box.record(3), 39);
        check.due(made + "step(10000) after a cut", box.step(10000), 2 * interval - 2);
    }

    private static void giveHundred(RewindBox box) {
        for (int i = 0; i < 100; i++) {
            box.give(i);
        }
    }

    private static void threeHundredInputs(Check check) {
        RewindBox box = Asm.started(64, Asm.read(1), Asm.jump(0));
        for (int i = 1; i <= 3; i++) {
            giveHundred(box);
            check.due("step(10000)", box.step(10000), 200);
            check.due("record(2)", box.record(2), 100 * i);
        }
        box.give(777);
        check.due("full: step(1)", box.step(1), 0);
        check.due("the input still waits", box.record(5), 1);
        check.due("PC stays", box.register(8), 0);
        check.due("log(299, 0)", box.log(299, 0), 598);
        check.due("log(300, 0)", box.log(300, 0), RewindBox.NONE);
        box.go(1);
        check.due("by the log", box.step(10000), 599);
        box.go(598);
        check.due("cut()", box.cut(), 299);
        check.due("step(10000)", box.step(10000), 2);
        check.due("register(1)", box.register(1), 777);
        check.due("record(2)", box.record(2), 300);
    }

    private static void threeHundredWithRings(Check check) {
        RewindBox box = new RewindBox(64);
        Asm.lay(box, 0, Asm.OPEN, Asm.read(1), Asm.wide(11, 1, 4), Asm.jump(1), Asm.add(2, 2, 1), Asm.jump(4));
        Asm.lay(box, 8, Asm.BACK);
        box.start();
        giveHundred(box);
        box.step(10000);
        giveHundred(box);
        box.step(10000);
        for (int i = 0; i < 98; i++) {
            box.give(i);
        }
        box.give(-1);
        check.due("step(500)", box.step(500), 99 * 3 + 203);
        check.due("record(2)", box.record(2), 299);
        box.ring();
        check.due("the last entry is a ring", box.step(1), 1);
        check.due("record(2)", box.record(2), 300);
        check.due("log(299, 1)", box.log(299, 1), 2);
        check.due("steps that are not logged go on", box.step(2), 2);
        box.ring();
        check.due("a ring would be logged", box.step(1), 0);
        check.due("it still is there", box.record(6), 1);
        check.due("PC is not 8", box.register(8) != 8, true);
        check.due("step(5)", box.step(5), 0);
        box.go(box.record(0) - 3);
        check.due("cut()", box.cut(), 299);
        check.due("now it is taken", box.step(1), 1);
        check.due("PC", box.register(8), 8);
    }

    /** Thirty pages in every 64 steps; a ring leads to a place where inputs say where to go on. */
    private static RewindBox storing() {
        RewindBox box = new RewindBox(64);
        Asm.lay(box, 0, Asm.OPEN, Asm.set(1, 128), Asm.set(2, 384), Asm.jump(16));
        Asm.lay(box, 8, Asm.read(7), Asm.jumpTo(7));
        Asm.lay(box, 10, Asm.OPEN, Asm.jump(10));
        Asm.lay(box, 12, Asm.OPEN, Asm.store(7, 1, 100), Asm.jump(10));
        int place = 16;
        for (int page = 0; page < 30; page++) {
            int at = (page + 2) * 16 + 15;
            box.poke(place++, Asm.store(7, at < 256 ? 1 : 2, at < 256 ? at - 128 : at - 384));
        }
        box.poke(place, Asm.jump(16));
        box.start();
        return box;
    }

    private static void threeHundredPages(Check check) {
        RewindBox box = storing();
        check.due("step(10000)", box.step(10000), 703);
        check.due("record(3)", box.record(3), 11);
        check.due("record(4)", box.record(4), 300);
        for (int k = 1; k <= 10; k++) {
            check.due("pages(" + k + ")", box.pages(k), 30);
        }
        check.due("full: step(1)", box.step(1), 0);
        check.due("go(640)", box.go(640), true);
        check.due("by the log", box.step(10000), 63);
        box.go(640);
        box.cut();
        box.give(10);
        box.ring();
        check.due("no page more: 40 snapshots", box.step(10000), 2559 - 640);
        check.due("pages(11)", box.pages(11), 0);
        check.due("record(4)", box.record(4), 300);
        box.go(600);
        box.cut();
        check.due("record(4) after a cut", box.record(4), 270);
        check.due("step(10000)", box.step(10000), 103);
        check.due("record(4)", box.record(4), 300);
    }

    /** At position 703 it is open, and a store is next, that would write page 301. */
    private static RewindBox beforeTheStore(int aimed) {
        RewindBox box = storing();
        box.step(640);
        box.ring();
        box.give(10);
        box.step(aimed - 5 - 640);
        box.ring();
        box.give(12);
        box.step(1000);
        return box;
    }

    private static void theStepThatStores(Check check) {
        RewindBox box = beforeTheStore(704);
        check.due("full before the store", box.record(0), 703);
        check.due("PC", box.register(8), 13);
        check.due("record(4)", box.record(4), 300);
        box.ring();
        check.due("a ring in its place is no store", box.step(1), 1);
        check.due("PC", box.register(8), 8);
        check.due("pages(11)", box.pages(11), 0);
        check.due("snapshots", box.record(3), 12);
        RewindBox earlier = beforeTheStore(702);
        check.due("full behind the store", earlier.record(0), 703);
        check.due("snapshots", earlier.record(3), 11);
        check.due("the word is stored", earlier.word(228), 12);
    }
}
