/** Promise 10: cut. */
public final class P10CutTest {
    private P10CutTest() {
    }

    public static void main(String[] args) {
        Check check = new Check();
        check.due("cut() without a record", new RewindBox(4).cut(), RewindBox.NONE);
        entriesAndSnapshots(check);
        pagesOfTheNextSnapshot(check);
        anotherDirection(check);
        atTheEnd(check);
        check.end();
    }

    /** An input at every even position, a page written at every odd one. */
    private static RewindBox busy(int interval) {
        RewindBox box = new RewindBox(interval);
        for (int i = 0; i < 12; i++) {
            box.poke(2 * i, Asm.read(1));
            box.poke(2 * i + 1, Asm.store(1, 2, 100 + i));
        }
        box.start();
        for (int i = 0; i < 12; i++) {
            box.give(50 + i);
        }
        box.step(100);
        return box;
    }

    private static void entriesAndSnapshots(Check check) {
        for (int position = 0; position <= 24; position++) {
            RewindBox box = busy(4);
            box.go(position);
            String made = "cut at " + position + ": ";
            check.due(made + "cut()", box.cut(), (position + 1) / 2);
            check.due(made + "entries", box.record(2), (position + 1) / 2);
            check.due(made + "position", box.record(0), position);
            check.due(made + "end", box.record(1), position);
            check.due(made + "snapshots", box.record(3), position / 4 + 1);
            int pages = box.record(4);
            int sum = 0;
            for (int k = 0; k <= position / 4; k++) {
                sum += box.pages(k);
            }
            check.due(made + "pages", pages, sum);
            check.due(made + "pages of the next", box.pages(position / 4 + 1), RewindBox.NONE);
            check.due(made + "log behind", box.log((position + 1) / 2, 0), RewindBox.NONE);
            check.due(made + "go behind", box.go(position + 1), false);
            check.due(made + "cut() again", box.cut(), (position + 1) / 2);
        }
    }

    /** Pages that were written before the cut count for the snapshot that comes behind it. */
    private static void pagesOfTheNextSnapshot(Check check) {
        RewindBox box = Asm.started(6, Asm.set(2, 200), Asm.store(2, 2, 0), Asm.store(2, 2, 20), Asm.read(3),
            Asm.store(2, 2, 40), Asm.store(2, 2, 60), Asm.jump(3));
        box.give(1);
        box.step(6);
        check.due("pages(1)", box.pages(1), 4);
        box.go(3);
        check.due("cut()", box.cut(), 0);
        check.due("record(3)", box.record(3), 1);
        check.due("record(4)", box.record(4), 0);
        box.give(2);
        box.step(3);
        check.due("pages(1) again", box.pages(1), 4);
        check.due("record(4)", box.record(4), 4);
        box.step(1);
        box.give(3);
        box.give(4);
        box.step(5);
        check.due("pages(2)", box.pages(2), 2);
        box.go(5);
        box.step(2);
        check.due("cut() behind a snapshot gone through", box.cut(), 1);
        box.give(3);
        box.give(4);
        box.step(5);
        check.due("pages(2) has only its own", box.pages(2), 2);
    }

    private static void anotherDirection(Check check) {
        RewindBox box = busy(4);
        box.go(7);
        box.give(-5);
        check.due("inputs that wait stay", box.cut(), 4);
        check.due("one waits", box.record(5), 1);
        check.due("step(100)", box.step(100), 3);
        check.due("word(103)", box.word(103), 53);
        check.due("word(104)", box.word(104), -5);
        check.due("word(105)", box.word(105), 0);
        check.due("end", box.record(1), 10);
        check.due("log(4, 0)", box.log(4, 0), 8);
        check.due("log(4, 2)", box.log(4, 2), -5);
        check.due("go(2)", box.go(2), true);
        check.due("go(10)", box.go(10), true);
        check.due("word(104) by the log", box.word(104), -5);
        box.go(3);
        box.ring();
        box.cut();
        check.due("a ring that came stays", box.record(6), 1);
    }

    private static void atTheEnd(Check check) {
        RewindBox box = busy(4);
        check.due("cut()", box.cut(), 12);
        check.due("end", box.record(1), 24);
        check.due("snapshots", box.record(3), 7);
        box.go(0);
        check.due("cut() at 0", box.cut(), 0);
        check.due("end", box.record(1), 0);
        check.due("snapshots", box.record(3), 1);
        check.due("it waits", box.step(5), 0);
    }
}
