/** Terms, "SNAPSHOTS": where they lie, what they have, and when the machine is full. */
public final class TermsSnapshotsTest {
    private TermsSnapshotsTest() {
    }

    public static void main(String[] args) {
        Cases cases = Cases.ofTerms("SNAPSHOTS");
        cases.hold(9, "SNAPSHOTS lie at the positions 0, I, 2 * I, .., I being the INTERVAL,",
            TermsSnapshotsTest::where);
        cases.hold(11, "as soon as the end comes there;", TermsSnapshotsTest::asSoonAs);
        cases.hold(11, "as soon as the end comes there;", TermsSnapshotsTest::onlyOnce);
        cases.hold(12, "each but the first has the pages that were written (op 8)", TermsSnapshotsTest::written);
        cases.hold(12, "by the steps since the one before.", TermsSnapshotsTest::sinceTheOneBefore);
        cases.hold(12, "by the steps since the one before.", TermsSnapshotsTest::sinceTheOneBeforeACut);
        cases.hold(11, "The log has at most 300 entries,", TermsSnapshotsTest::threeHundredEntries);
        cases.hold(11, "there are at most 40 snapshots,", TermsSnapshotsTest::fortySnapshots);
        cases.hold(11, "with at most 300 pages together.", TermsSnapshotsTest::threeHundredPages);
        cases.hold(7, "The machine is FULL, and no step is done live,", TermsSnapshotsTest::noStepIsDoneLive);
        cases.hold(7, "The machine is FULL, and no step is done live,", TermsSnapshotsTest::roomAfterACut);
        cases.hold(7, "if the next one would be logged and there are 300 entries;",
            TermsSnapshotsTest::inputWouldBeLogged);
        cases.hold(7, "if the next one would be logged and there are 300 entries;",
            TermsSnapshotsTest::ringWouldBeLogged);
        cases.hold(7, "or if it would bring the end to the place of a snapshot, and there are 40,",
            TermsSnapshotsTest::placeOfASnapshot);
        cases.hold(7, "or its pages would be too many.", TermsSnapshotsTest::pagesTooMany);
        cases.hold(7, "or its pages would be too many.", TermsSnapshotsTest::theStepThatStores);
        cases.end();
    }

    private static void where(Check check) {
        int[] intervals = {2, 3, 63, 64};
        for (int interval : intervals) {
            RewindBox box = Boxes.spinning(interval);
            box.step(9999);
            for (int k = 0; k < 40; k++) {
                check.due("interval " + interval + ": far() of snapshot " + k, box.far(k * interval), 0);
            }
            check.due("interval " + interval + ": snapshots", box.record(3), 40);
        }
    }

    private static void asSoonAs(Check check) {
        for (int interval = 2; interval <= 64; interval++) {
            RewindBox box = Boxes.spinning(interval);
            check.due("interval " + interval + " at 0", box.record(3), 1);
            for (int k = 1; k < 40; k++) {
                box.step(interval - 1);
                check.due("interval " + interval + " before " + k, box.record(3), k);
                box.step(1);
                check.due("interval " + interval + " at " + k, box.record(3), k + 1);
            }
        }
    }

    private static void onlyOnce(Check check) {
        RewindBox box = Asm.started(4, Asm.NOTHING, Asm.store(0, 0, 100), Asm.store(0, 0, 120), Asm.jump(0));
        box.step(8);
        check.due("snapshots", box.record(3), 3);
        check.due("pages", box.record(4), 4);
        box.go(1);
        check.due("to the end by the log", box.step(7), 7);
        check.due("snapshots", box.record(3), 3);
        check.due("pages", box.record(4), 4);
        box.go(3);
        check.due("over the end", box.step(9), 9);
        check.due("snapshots", box.record(3), 4);
        check.due("pages", box.record(4), 6);
    }

    private static void written(Check check) {
        RewindBox poked = new RewindBox(4);
        Asm.lay(poked, 0, Asm.jump(0));
        Asm.lay(poked, 100, 1, 2, 3);
        poked.start();
        poked.step(4);
        check.due("poke() writes no page of a snapshot", poked.pages(0), 0);
        check.due("nor of the next one", poked.pages(1), 0);
        RewindBox same = Asm.started(4, Asm.store(0, 0, 100), Asm.NOTHING, Asm.NOTHING, Asm.NOTHING);
        same.step(4);
        check.due("a word that stays the same is written", same.pages(1), 1);
        RewindBox others = Asm.started(4, Asm.OPEN, Asm.load(1, 0, 100), Asm.read(1), Asm.out(1), Asm.jump(4));
        others.give(4);
        others.step(3);
        others.ring();
        others.step(1);
        check.due("nothing else writes", others.pages(1), 0);
        RewindBox twice = Asm.started(4, Asm.store(0, 0, 100), Asm.store(0, 0, 101), Asm.store(0, 0, 100), Asm.NOTHING);
        twice.step(4);
        check.due("a page counts once", twice.pages(1), 1);
    }

    private static void sinceTheOneBefore(Check check) {
        RewindBox box = Asm.started(2, Asm.NOTHING, Asm.store(0, 0, 127), Asm.store(0, 0, 100), Asm.NOTHING,
            Asm.NOTHING, Asm.NOTHING, Asm.store(0, 0, 127), Asm.store(0, 0, 100), Asm.jump(9), Asm.jump(9));
        box.step(10);
        check.due("the step that comes to it", box.pages(1), 1);
        check.due("the step that leaves the one before", box.pages(2), 1);
        check.due("none in between", box.pages(3), 0);
        check.due("written again", box.pages(4), 2);
        check.due("none of those before", box.pages(5), 0);
        check.due("record(4)", box.record(4), 4);
    }

    private static void sinceTheOneBeforeACut(Check check) {
        RewindBox box = Asm.started(4, Asm.store(0, 0, 100), Asm.read(1), Asm.wide(10, 1, 6), Asm.store(0, 0, 120),
            Asm.NOTHING, Asm.NOTHING, Asm.NOTHING, Asm.NOTHING);
        box.give(1);
        box.step(6);
        check.due("pages(1)", box.pages(1), 2);
        box.go(1);
        box.cut();
        box.give(0);
        check.due("step(3)", box.step(3), 3);
        check.due("the page before the cut, not the one that was left", box.pages(1), 1);
        box.go(4);
        box.cut();
        check.due("a snapshot just there stays", box.pages(1), 1);
        RewindBox gone = Asm.started(4, Asm.NOTHING, Asm.NOTHING, Asm.store(0, 0, 100), Asm.store(0, 0, 120),
            Asm.NOTHING, Asm.jump(4));
        gone.step(4);
        gone.go(3);
        gone.step(4);
        check.due("step(1)", gone.step(1), 1);
        check.due("steps done again before it do not count", gone.pages(2), 0);
    }

    /** Entries of the log: 100 times so many inputs were taken. */
    private static RewindBox reading(int hundreds) {
        RewindBox box = Boxes.reading(64);
        for (int i = 0; i < hundreds; i++) {
            Boxes.give(box, 100);
            box.step(200);
        }
        return box;
    }

    private static void threeHundredEntries(Check check) {
        RewindBox box = reading(2);
        Boxes.give(box, 99);
        box.step(9999);
        check.due("299 entries", box.record(2), 299);
        box.give(1000);
        box.give(1001);
        check.due("step(9999): the last one, and a jump", box.step(9999), 2);
        check.due("300 entries", box.record(2), 300);
        check.due("log(299, 2)", box.log(299, 2), 1000);
        check.due("one waits", box.record(5), 1);
        check.due("step(9999)", box.step(9999), 0);
        check.due("300 entries", box.record(2), 300);
    }

    private static void fortySnapshots(Check check) {
        for (int interval = 2; interval <= 64; interval++) {
            RewindBox box = Boxes.spinning(interval);
            String made = "interval " + interval + ": ";
            box.step(39 * interval - 1);
            check.due(made + "39 snapshots", box.record(3), 39);
            check.due(made + "step(1)", box.step(1), 1);
            check.due(made + "40 snapshots", box.record(3), 40);
            check.due(made + "step(9999)", box.step(9999), interval - 1);
            check.due(made + "40 snapshots", box.record(3), 40);
            check.due(made + "end", box.record(1), 40 * interval - 1);
        }
    }

    /** Thirty pages in every 64 steps; a ring leads to a place where inputs say where to go on. */
    private static RewindBox storing() {
        RewindBox box = new RewindBox(64);
        Asm.lay(box, 0, Asm.OPEN, Asm.set(1, 128), Asm.set(2, 384), Asm.jump(16));
        Asm.lay(box, 8, Asm.read(7), Asm.jumpTo(7));
        Asm.lay(box, 10, Asm.OPEN, Asm.jump(10));
        Asm.lay(box, 12, Asm.OPEN, Asm.store(7, 1, 100), Asm.jump(10));
        int place = 16;
        for (int page = 0; page < 30; page++) {
            int at = (page + 2) * 16 + 15;
            box.poke(place++, Asm.store(7, at < 256 ? 1 : 2, at < 256 ? at - 128 : at - 384));
        }
        box.poke(place, Asm.jump(16));
        box.start();
        return box;
    }

    private static void threeHundredPages(Check check) {
        RewindBox box = storing();
        check.due("step(639)", box.step(639), 639);
        check.due("270 pages", box.record(4), 270);
        check.due("step(1)", box.step(1), 1);
        check.due("300 pages", box.record(4), 300);
        for (int k = 1; k <= 10; k++) {
            check.due("pages(" + k + ")", box.pages(k), 30);
        }
        check.due("step(9999)", box.step(9999), 63);
        check.due("300 pages", box.record(4), 300);
        check.due("snapshots", box.record(3), 11);
    }

    private static void noStepIsDoneLive(Check check) {
        RewindBox entries = reading(3);
        entries.give(777);
        check.due("300 entries: step(1)", entries.step(1), 0);
        check.due("the input still waits", entries.record(5), 1);
        check.due("PC stays", entries.register(8), 0);
        check.due("the register stays", entries.register(1), 100);
        check.due("the end stays", entries.record(1), 600);
        entries.go(1);
        check.due("by the log", entries.step(9999), 599);
        Twins.stay(check, "step(1) of 40 snapshots", TermsSnapshotsTest::withFortySnapshots, box -> box.step(1));
        RewindBox snapshots = withFortySnapshots();
        check.due("40 snapshots: step(1)", snapshots.step(1), 0);
        snapshots.go(70);
        check.due("by the log", snapshots.step(9999), 9);
        Twins.stay(check, "step(1) of 300 pages", TermsSnapshotsTest::withThreeHundredPages, box -> box.step(1));
        RewindBox pages = withThreeHundredPages();
        check.due("300 pages: step(1)", pages.step(1), 0);
        pages.go(640);
        check.due("by the log", pages.step(9999), 63);
    }

    private static RewindBox withFortySnapshots() {
        RewindBox box = Asm.started(2, Asm.add(1, 1, 2), Asm.store(0, 0, 100), Asm.jump(0));
        box.step(9999);
        return box;
    }

    private static RewindBox withThreeHundredPages() {
        RewindBox box = storing();
        box.step(9999);
        return box;
    }

    private static void roomAfterACut(Check check) {
        RewindBox entries = reading(3);
        entries.give(777);
        entries.go(598);
        check.due("cut()", entries.cut(), 299);
        check.due("step(9999)", entries.step(9999), 2);
        check.due("register(1)", entries.register(1), 777);
        check.due("300 entries again", entries.record(2), 300);
        RewindBox snapshots = Boxes.spinning(10);
        snapshots.step(9999);
        snapshots.go(381);
        snapshots.cut();
        check.due("39 snapshots", snapshots.record(3), 39);
        check.due("step(9999)", snapshots.step(9999), 18);
        RewindBox pages = storing();
        pages.step(9999);
        pages.go(600);
        pages.cut();
        check.due("270 pages", pages.record(4), 270);
        check.due("step(9999)", pages.step(9999), 103);
        check.due("300 pages again", pages.record(4), 300);
    }

    private static void inputWouldBeLogged(Check check) {
        RewindBox box = new RewindBox(64);
        Asm.lay(box, 0, Asm.read(1), Asm.wide(11, 1, 3), Asm.jump(0));
        Asm.lay(box, 3, Asm.NOTHING, Asm.NOTHING, Asm.read(2));
        box.start();
        for (int i = 0; i < 2; i++) {
            Boxes.give(box, 100);
            box.step(300);
        }
        Boxes.give(box, 99);
        box.give(-1);
        box.step(297);
        check.due("299 entries", box.record(2), 299);
        check.due("the last one and steps that are not logged", box.step(9999), 4);
        check.due("300 entries", box.record(2), 300);
        check.due("PC", box.register(8), 5);
        check.due("it waits", box.step(1), 0);
        box.give(9);
        check.due("now it is full", box.step(1), 0);
        check.due("record(5)", box.record(5), 1);
        check.due("register(2)", box.register(2), 0);
    }

    private static void ringWouldBeLogged(Check check) {
        RewindBox box = new RewindBox(64);
        Asm.lay(box, 0, Asm.OPEN, Asm.read(1), Asm.wide(11, 1, 4), Asm.jump(1), Asm.add(2, 2, 1), Asm.jump(4));
        Asm.lay(box, 8, Asm.BACK);
        box.start();
        Boxes.give(box, 100);
        box.step(10000);
        Boxes.give(box, 100);
        box.step(10000);
        Boxes.give(box, 98);
        box.give(-1);
        check.due("step(500)", box.step(500), 99 * 3 + 203);
        check.due("299 entries", box.record(2), 299);
        box.ring();
        check.due("the last entry is a ring", box.step(1), 1);
        check.due("300 entries", box.record(2), 300);
        check.due("log(299, 1)", box.log(299, 1), 2);
        check.due("steps that are not logged go on", box.step(2), 2);
        int pc = box.register(8);
        box.ring();
        check.due("a ring would be logged", box.step(1), 0);
        check.due("it still is there", box.record(6), 1);
        check.due("PC stays", box.register(8), pc);
        check.due("BACK stays", box.register(9), pc == 4 ? 5 : 4);
        check.due("it is open", box.register(10), 1);
        check.due("step(5)", box.step(5), 0);
        box.go(box.record(0) - 3);
        check.due("cut()", box.cut(), 299);
        check.due("now it is taken", box.step(1), 1);
        check.due("PC", box.register(8), 8);
    }

    private static void placeOfASnapshot(Check check) {
        int[] intervals = {2, 3, 10, 64};
        for (int interval : intervals) {
            RewindBox box = Asm.started(interval, Asm.OPEN, Asm.add(1, 1, 2), Asm.jump(1));
            int last = 40 * interval - 1;
            box.step(last - 1);
            String made = "interval " + interval + ": ";
            check.due(made + "one before the last", box.step(1), 1);
            int pc = box.register(8);
            check.due(made + "the last", box.step(1), 0);
            check.due(made + "PC stays", box.register(8), pc);
            box.ring();
            check.due(made + "nor is a ring taken", box.step(1), 0);
            check.due(made + "record(6)", box.record(6), 1);
            check.due(made + "position", box.record(0), last);
        }
        RewindBox reading = Asm.started(4,
            Asm.NOTHING, Asm.NOTHING, Asm.NOTHING, Asm.read(1), Asm.NOTHING, Asm.jump(0));
        Boxes.give(reading, 100);
        check.due("step(9999)", reading.step(9999), 159);
        check.due("an input would be next", reading.register(8), 3);
        check.due("record(5)", reading.record(5), 74);
        check.due("nor is an input taken", reading.step(1), 0);
        check.due("record(5)", reading.record(5), 74);
        check.due("record(2)", reading.record(2), 26);
    }

    private static void pagesTooMany(Check check) {
        RewindBox box = storing();
        check.due("step(9999)", box.step(9999), 703);
        check.due("step(1)", box.step(1), 0);
        check.due("position", box.record(0), 703);
        box.go(640);
        box.cut();
        box.give(10);
        box.ring();
        check.due("no page more: until there are 40 snapshots", box.step(9999), 2559 - 640);
        check.due("pages(11)", box.pages(11), 0);
        check.due("300 pages", box.record(4), 300);
    }

    /** At position 640 there are 300 pages; the one store behind it is the step to the position aimed. */
    private static RewindBox oneStore(int aimed) {
        RewindBox box = storing();
        box.step(640);
        box.ring();
        box.give(10);
        box.step(aimed - 5 - 640);
        box.ring();
        box.give(12);
        box.step(9999);
        return box;
    }

    private static void theStepThatStores(Check check) {
        RewindBox box = oneStore(704);
        check.due("full before the store", box.record(0), 703);
        check.due("PC", box.register(8), 13);
        check.due("the word is not stored", box.word(228), 0);
        check.due("300 pages", box.record(4), 300);
        box.ring();
        check.due("a ring in its place is no store", box.step(1), 1);
        check.due("PC", box.register(8), 8);
        check.due("pages(11)", box.pages(11), 0);
        check.due("snapshots", box.record(3), 12);
        RewindBox earlier = oneStore(702);
        check.due("full behind the store", earlier.record(0), 703);
        check.due("snapshots", earlier.record(3), 11);
        check.due("the word is stored", earlier.word(228), 12);
        RewindBox later = oneStore(705);
        check.due("full at the next place", later.record(0), 767);
        check.due("snapshots", later.record(3), 12);
    }
}
