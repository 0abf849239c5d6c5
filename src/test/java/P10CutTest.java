/** Promise 10: cut. */
public final class P10CutTest {
    private P10CutTest() {
    }

    public static void main(String[] args) {
        Cases cases = Cases.ofPromise(10);
        cases.hold("The end is here:", P10CutTest::theEndIsHere);
        cases.hold("The end is here:", P10CutTest::atTheEnd);
        cases.hold("The end is here:", P10CutTest::theMachineStays);
        cases.hold("The end is here:", P10CutTest::anotherDirection);
        cases.hold("snapshots behind it", P10CutTest::snapshotsBehind);
        cases.hold("snapshots behind it", P10CutTest::pagesOfTheNextSnapshot);
        cases.hold("and entries of the log not before the position are gone:", P10CutTest::entriesNotBefore);
        cases.hold("and entries of the log not before the position are gone:", P10CutTest::whatWaitsStays);
        cases.hold("how many entries are left;", P10CutTest::howManyAreLeft);
        cases.hold("NONE without a record.", P10CutTest::withoutARecord);
        cases.end();
    }

    /** An input at every even position, a word written at every odd one. */
    private static RewindBox writing(int interval) {
        RewindBox box = new RewindBox(interval);
        for (int i = 0; i < 12; i++) {
            box.poke(2 * i, Asm.read(1));
            box.poke(2 * i + 1, Asm.store(1, 2, 100 + i));
        }
        box.start();
        for (int i = 0; i < 12; i++) {
            box.give(50 + i);
        }
        box.step(100);
        return box;
    }

    private static RewindBox cutAt(int position) {
        RewindBox box = writing(4);
        box.go(position);
        box.cut();
        return box;
    }

    private static void theEndIsHere(Check check) {
        for (int position = 0; position <= 24; position++) {
            RewindBox box = cutAt(position);
            String made = "cut at " + position + ": ";
            check.due(made + "position", box.record(0), position);
            check.due(made + "end", box.record(1), position);
            check.due(made + "go(behind)", box.go(position + 1), false);
            check.due(made + "go(there)", box.go(position), true);
            check.due(made + "go(0)", box.go(0), true);
            check.due(made + "step(99) by the log", box.step(99), position % 2 == 0 ? position : position + 1);
        }
    }

    private static void atTheEnd(Check check) {
        check.due("cut() at the end", writing(4).cut(), 12);
        Twins.stay(check, "cut() at the end", () -> writing(4), RewindBox::cut);
        Twins.stay(check, "cut() at the beginning", () -> Boxes.spinning(4), RewindBox::cut);
        Twins.stay(check, "cut() again", () -> cutAt(9), RewindBox::cut);
    }

    private static void theMachineStays(Check check) {
        for (int from = 0; from < 512; from += 256) {
            RewindBox box = Boxes.busyGoneBack(4);
            RewindBox twin = Boxes.busyGoneBack(4);
            box.cut();
            for (int i = 0; i <= 10; i++) {
                check.due("register(" + i + ")", box.register(i), twin.register(i));
            }
            for (int place = from; place < from + 256; place++) {
                check.due("word(" + place + ")", box.word(place), twin.word(place));
            }
            check.due("outs()", box.outs(), twin.outs());
            check.due("out(0)", box.out(0), twin.out(0));
        }
    }

    private static void anotherDirection(Check check) {
        RewindBox box = writing(4);
        box.go(7);
        box.cut();
        box.give(-5);
        check.due("step(100)", box.step(100), 3);
        check.due("word(103)", box.word(103), 53);
        check.due("word(104)", box.word(104), -5);
        check.due("word(105)", box.word(105), 0);
        check.due("end", box.record(1), 10);
        check.due("log(4, 0)", box.log(4, 0), 8);
        check.due("log(4, 2)", box.log(4, 2), -5);
        check.due("go(2)", box.go(2), true);
        check.due("go(10)", box.go(10), true);
        check.due("word(104) by the log", box.word(104), -5);
        check.due("word(105) by the log", box.word(105), 0);
    }

    private static void snapshotsBehind(Check check) {
        for (int position = 0; position <= 24; position++) {
            RewindBox box = cutAt(position);
            RewindBox whole = writing(4);
            String made = "cut at " + position + ": ";
            int last = position / 4;
            check.due(made + "snapshots", box.record(3), last + 1);
            int sum = 0;
            for (int k = 0; k <= last; k++) {
                check.due(made + "pages(" + k + ")", box.pages(k), whole.pages(k));
                sum += whole.pages(k);
            }
            check.due(made + "pages of all", box.record(4), sum);
            check.due(made + "pages of the next", box.pages(last + 1), RewindBox.NONE);
        }
    }

    /** Pages that were written before the cut count for the snapshot that comes behind it. */
    private static void pagesOfTheNextSnapshot(Check check) {
        RewindBox box = Asm.started(6, Asm.set(2, 200), Asm.store(2, 2, 0), Asm.store(2, 2, 20), Asm.read(3),
            Asm.store(2, 2, 40), Asm.store(2, 2, 60), Asm.jump(3));
        box.give(1);
        box.step(6);
        check.due("pages(1)", box.pages(1), 4);
        box.go(3);
        check.due("cut()", box.cut(), 0);
        check.due("record(4)", box.record(4), 0);
        box.give(2);
        box.step(3);
        check.due("pages(1) again", box.pages(1), 4);
        check.due("record(4)", box.record(4), 4);
        box.step(1);
        box.give(3);
        box.give(4);
        box.step(5);
        check.due("pages(2)", box.pages(2), 2);
        box.go(5);
        box.step(2);
        check.due("cut() behind a snapshot gone through", box.cut(), 1);
        box.give(3);
        box.give(4);
        box.step(5);
        check.due("pages(2) has only its own", box.pages(2), 2);
    }

    private static void entriesNotBefore(Check check) {
        RewindBox box = writing(4);
        box.go(9);
        box.cut();
        check.due("an entry one before it stays", box.log(4, 0), 8);
        check.due("record(2)", box.record(2), 5);
        box.go(8);
        box.cut();
        check.due("an entry just there is gone", box.log(4, 0), RewindBox.NONE);
        check.due("the one before it stays", box.log(3, 0), 6);
        check.due("record(2)", box.record(2), 4);
        check.due("there it waits", box.step(1), 0);
        RewindBox rung = Boxes.busy(4);
        rung.go(10);
        check.due("a ring one before it stays", rung.cut(), 2);
        check.due("log(1, 1)", rung.log(1, 1), 2);
        rung.go(9);
        check.due("a ring just there is gone", rung.cut(), 1);
        check.due("step(1)", rung.step(1), 1);
        check.due("it is not taken again", rung.register(8), 22);
    }

    private static void whatWaitsStays(Check check) {
        RewindBox box = Boxes.busyGoneBack(4);
        box.cut();
        check.due("inputs that wait", box.record(5), 2);
        check.due("a ring", box.record(6), 1);
        check.due("step(1)", box.step(1), 1);
        check.due("the ring is taken here", box.log(box.record(2) - 1, 0), 30);
        box.step(99);
        check.due("inputs taken here", box.register(1), 62);
        RewindBox alone = writing(4);
        alone.go(0);
        alone.cut();
        check.due("those of the log do not wait again", alone.record(5), 0);
    }

    private static void howManyAreLeft(Check check) {
        for (int position = 0; position <= 24; position++) {
            RewindBox box = writing(4);
            box.go(position);
            String made = "cut at " + position + ": ";
            check.due(made + "cut()", box.cut(), (position + 1) / 2);
            check.due(made + "entries", box.record(2), (position + 1) / 2);
            check.due(made + "cut() again", box.cut(), (position + 1) / 2);
        }
        check.due("cut() of an empty one", Boxes.spinning(4).cut(), 0);
    }

    private static void withoutARecord(Check check) {
        check.due("cut() of a new one", new RewindBox(4).cut(), RewindBox.NONE);
        check.due("cut() after stop()", Boxes.busyStopped(4).cut(), RewindBox.NONE);
        Twins.stay(check, "cut()", () -> Boxes.busyStopped(4), RewindBox::cut);
    }
}
