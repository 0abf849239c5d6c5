/** Promise 3: start. */
public final class P03StartTest {
    private P03StartTest() {
    }

    public static void main(String[] args) {
        Cases cases = Cases.ofPromise(3);
        cases.hold("A record begins", P03StartTest::onANewObject);
        cases.hold("A record begins", P03StartTest::afterAStop);
        cases.hold("(a former one ends;", P03StartTest::aFormerOneEnds);
        cases.hold("(a former one ends;", P03StartTest::twiceAtOnce);
        cases.hold("(a former one ends;", P03StartTest::aFullOneEnds);
        cases.hold("(a former one ends;", P03StartTest::pagesOfAFormerOneDoNotCount);
        cases.hold("memory is as it is now).", P03StartTest::memoryAtTheEnd);
        cases.hold("memory is as it is now).", P03StartTest::memoryGoneBack);
        cases.hold("memory is as it is now).", P03StartTest::memoryPokedAfterAStop);
        cases.end();
    }

    private static void isEmpty(Check check, String when, RewindBox box) {
        int[] due = {0, 0, 0, 1, 0, 0, 0};
        for (int what = 0; what < due.length; what++) {
            check.due(when + "record(" + what + ")", box.record(what), due[what]);
        }
        for (int i = 0; i <= 10; i++) {
            check.due(when + "register(" + i + ")", box.register(i), 0);
        }
        check.due(when + "outs()", box.outs(), 0);
        check.due(when + "out(0)", box.out(0), 0);
        check.due(when + "log(0, 0)", box.log(0, 0), RewindBox.NONE);
        check.due(when + "pages(0)", box.pages(0), 0);
        check.due(when + "pages(1)", box.pages(1), RewindBox.NONE);
        check.due(when + "go(1)", box.go(1), false);
        check.due(when + "go(0)", box.go(0), true);
    }

    private static void onANewObject(Check check) {
        RewindBox box = new RewindBox(2);
        box.start();
        isEmpty(check, "first: ", box);
        check.due("poke(0, 0)", box.poke(0, 0), false);
    }

    private static void afterAStop(Check check) {
        RewindBox box = Boxes.busyStopped(4);
        box.start();
        isEmpty(check, "after stop(): ", box);
        check.due("it waits at once for an input", box.step(99), 4);
    }

    private static void aFormerOneEnds(Check check) {
        RewindBox atTheEnd = Boxes.busy(4);
        atTheEnd.start();
        isEmpty(check, "at the end: ", atTheEnd);
        RewindBox goneBack = Boxes.busyGoneBack(4);
        check.due("inputs that wait", goneBack.record(5), 2);
        check.due("a ring", goneBack.record(6), 1);
        goneBack.start();
        isEmpty(check, "gone back: ", goneBack);
        check.due("neither a ring nor an input is left", goneBack.step(99), 4);
        check.due("entries", goneBack.record(2), 0);
    }

    private static void twiceAtOnce(Check check) {
        RewindBox box = new RewindBox(2);
        box.start();
        box.start();
        isEmpty(check, "twice: ", box);
    }

    private static void aFullOneEnds(Check check) {
        RewindBox box = Boxes.spinning(2);
        check.due("step(9999)", box.step(9999), 79);
        box.start();
        isEmpty(check, "full: ", box);
        check.due("step(9999) again", box.step(9999), 79);
        RewindBox reading = Boxes.reading(64);
        Boxes.give(reading, 100);
        check.due("give(1)", reading.give(1), RewindBox.NONE);
        reading.start();
        check.due("give(1) again", reading.give(1), 1);
    }

    private static void pagesOfAFormerOneDoNotCount(Check check) {
        RewindBox box = Asm.started(4, Asm.store(0, 0, 100), Asm.jump(8));
        box.step(2);
        box.start();
        box.stop();
        box.poke(0, Asm.jump(0));
        box.start();
        box.step(4);
        check.due("pages(1)", box.pages(1), 0);
        check.due("record(4)", box.record(4), 0);
    }

    /** Adds 1 to word 100 in 4 steps, then halts. */
    private static RewindBox adding() {
        return Asm.started(2, Asm.load(1, 0, 100), Asm.set(2, 1), Asm.add(1, 1, 2), Asm.store(1, 0, 100));
    }

    private static void memoryAtTheEnd(Check check) {
        RewindBox box = adding();
        for (int round = 1; round <= 5; round++) {
            check.due("step(9)", box.step(9), 4);
            box.start();
            check.due("word(100) of round " + round, box.word(100), round);
            check.due("go(0)", box.go(0), true);
            check.due("word(100) at 0", box.word(100), round);
        }
        box.step(9);
        check.due("go(0)", box.go(0), true);
        check.due("word(100) gone back to 0", box.word(100), 5);
    }

    private static void memoryGoneBack(Check check) {
        RewindBox box = adding();
        box.step(9);
        check.due("word(100) at the end", box.word(100), 1);
        box.go(3);
        box.start();
        check.due("word(100)", box.word(100), 0);
        box.step(9);
        check.due("word(100) then", box.word(100), 1);
        box.go(0);
        check.due("word(100) at 0", box.word(100), 0);
    }

    private static void memoryPokedAfterAStop(Check check) {
        RewindBox box = adding();
        box.step(9);
        box.stop();
        box.poke(100, 70);
        box.start();
        box.step(9);
        check.due("word(100)", box.word(100), 71);
        box.go(2);
        check.due("word(100) at 2", box.word(100), 70);
    }
}
