/** Terms, "THE RECORD": what it begins with, live at the end, by the log before it. */
public final class TermsRecordTest {
    private TermsRecordTest() {
    }

    public static void main(String[] args) {
        Cases cases = Cases.ofTerms("THE RECORD");
        cases.hold(3, "THE RECORD begins with the memory as it is,", TermsRecordTest::memory);
        cases.hold(3, "registers and PC and BACK 0,", TermsRecordTest::registers);
        cases.hold(3, "not open,", TermsRecordTest::notOpen);
        cases.hold(3, "nothing out,", TermsRecordTest::nothingOut);
        cases.hold(3, "no input given,", TermsRecordTest::noInput);
        cases.hold(3, "no ring.", TermsRecordTest::noRing);
        cases.hold(11, "The POSITION is how many steps lie before;", TermsRecordTest::position);
        cases.hold(11, "the END the farthest one since then.", TermsRecordTest::end);
        cases.hold(5, "At the end the machine runs LIVE: an input is the next one of those that were given",
            TermsRecordTest::nextInput);
        cases.hold(7, "(without one the machine WAITS: no step is done, PC stays);", TermsRecordTest::waits);
        cases.hold(6, "a ring that came is taken at the next step before which it is open;",
            TermsRecordTest::nextOpenStep);
        cases.hold(6, "a ring that came is taken at the next step before which it is open;",
            TermsRecordTest::beforeAnInstruction);
        cases.hold(6, "a ring that came is taken at the next step before which it is open;",
            TermsRecordTest::insteadOfHaltAndWait);
        cases.hold(13, "both are written into THE LOG, with the position before that step.", TermsRecordTest::log);
        cases.hold(7, "Behind the end, at an earlier position, steps are done by the log:",
            TermsRecordTest::byTheLog);
        cases.hold(7, "an input is the one that was logged there,", TermsRecordTest::loggedInputs);
        cases.hold(7, "a ring is taken just where one was.", TermsRecordTest::loggedRings);
        cases.hold(7, "a ring is taken just where one was.", TermsRecordTest::aNewRingWaits);
        cases.end();
    }

    /** All registers, PC and BACK are not 0, it is open, has put out, and an input and a ring wait. */
    private static RewindBox full() {
        RewindBox box = new RewindBox(4);
        Asm.lay(box, 0, Asm.OPEN, Asm.jump(20));
        Asm.lay(box, 8, Asm.BACK);
        for (int i = 0; i < 8; i++) {
            box.poke(20 + i, Asm.set(i, 50 + i));
        }
        Asm.lay(box, 28, Asm.store(7, 0, 100), Asm.out(7), Asm.jump(30));
        box.start();
        box.step(3);
        box.ring();
        box.step(20);
        box.give(6);
        box.ring();
        return box;
    }

    private static void memory(Check check) {
        for (int from = 0; from < 512; from += 256) {
            RewindBox box = full();
            RewindBox twin = full();
            box.start();
            for (int place = from; place < from + 256; place++) {
                check.due("word(" + place + ")", box.word(place), twin.word(place));
            }
        }
        RewindBox box = full();
        check.due("word(150) before", box.word(150), 57);
        box.start();
        check.due("word(150)", box.word(150), 57);
        box.step(5);
        box.go(0);
        check.due("word(150) gone back", box.word(150), 57);
    }

    private static void registers(Check check) {
        RewindBox box = full();
        for (int i = 0; i <= 9; i++) {
            check.due("register(" + i + ") was not 0", box.register(i) != 0, true);
        }
        box.start();
        for (int i = 0; i <= 9; i++) {
            check.due("register(" + i + ")", box.register(i), 0);
        }
        box.step(5);
        box.go(0);
        for (int i = 0; i <= 9; i++) {
            check.due("register(" + i + ") gone back", box.register(i), 0);
        }
    }

    private static void notOpen(Check check) {
        RewindBox box = full();
        check.due("it was open", box.register(10), 1);
        box.start();
        check.due("not open", box.register(10), 0);
        box.ring();
        check.due("step(1)", box.step(1), 1);
        check.due("a ring is not taken at once", box.record(6), 1);
        box.go(0);
        check.due("gone back", box.register(10), 0);
    }

    private static void nothingOut(Check check) {
        RewindBox box = full();
        check.due("outs() before", box.outs(), 1);
        box.start();
        check.due("outs()", box.outs(), 0);
        check.due("out(0)", box.out(0), 0);
    }

    private static void noInput(Check check) {
        RewindBox box = full();
        check.due("record(5) before", box.record(5), 1);
        box.start();
        check.due("record(5)", box.record(5), 0);
        check.due("give(1)", box.give(1), 1);
        RewindBox reading = Boxes.reading(4);
        reading.give(5);
        reading.start();
        check.due("step(1)", reading.step(1), 0);
        reading.give(7);
        reading.step(1);
        check.due("the input", reading.register(1), 7);
    }

    private static void noRing(Check check) {
        RewindBox box = full();
        check.due("record(6) before", box.record(6), 1);
        box.start();
        check.due("record(6)", box.record(6), 0);
        box.step(9);
        check.due("entries", box.record(2), 0);
    }

    private static void position(Check check) {
        RewindBox box = Asm.started(3, Asm.read(1), Asm.OPEN, Asm.jump(0), 0, 0, 0, 0, 0, Asm.BACK);
        check.due("at the beginning", box.record(0), 0);
        box.step(1);
        check.due("a step that was not done", box.record(0), 0);
        box.give(1);
        box.step(1);
        check.due("an input", box.record(0), 1);
        box.step(1);
        check.due("another step", box.record(0), 2);
        box.ring();
        box.step(1);
        check.due("a ring is a step, too", box.record(0), 3);
        box.go(1);
        check.due("gone back", box.record(0), 1);
        box.step(1);
        check.due("done again", box.record(0), 2);
    }

    private static void end(Check check) {
        RewindBox box = Boxes.spinning(4);
        box.step(10);
        int[] positions = {9, 0, 10, 4};
        for (int position : positions) {
            box.go(position);
            check.due("the end at " + position, box.record(1), 10);
        }
        box.step(6);
        check.due("just there again", box.record(1), 10);
        box.step(1);
        check.due("one farther", box.record(1), 11);
        box.go(3);
        box.step(20);
        check.due("far over it", box.record(1), 23);
        box.start();
        check.due("since the record began", box.record(1), 0);
    }

    private static void nextInput(Check check) {
        RewindBox box = Boxes.reading(64);
        int[] values = {5, 5, -1, 0, 9};
        for (int value : values) {
            box.give(value);
        }
        for (int i = 0; i < values.length; i++) {
            box.step(2);
            check.due("input " + i, box.register(1), values[i]);
            check.due("record(5)", box.record(5), values.length - 1 - i);
        }
    }

    private static void waits(Check check) {
        RewindBox box = Asm.started(2, Asm.NOTHING, Asm.read(1), Asm.jump(1));
        check.due("step(9)", box.step(9), 1);
        for (int i = 0; i < 3; i++) {
            check.due("step(9) without an input", box.step(9), 0);
            check.due("PC stays", box.register(8), 1);
            check.due("position", box.record(0), 1);
            check.due("end", box.record(1), 1);
            check.due("snapshots", box.record(3), 1);
            check.due("entries", box.record(2), 0);
        }
        box.give(3);
        check.due("step(9) with one: it, a jump, and no more", box.step(9), 2);
        check.due("PC stays", box.register(8), 1);
        Twins.stay(check, "waiting", () -> Boxes.reading(4), twin -> twin.step(5));
    }

    private static RewindBox closedAndOpen() {
        return Asm.started(4,
            Asm.NOTHING, Asm.OPEN, Asm.CLOSE, Asm.NOTHING, Asm.OPEN, Asm.NOTHING, 0, 0, Asm.set(3, 30), Asm.BACK);
    }

    private static void nextOpenStep(Check check) {
        RewindBox box = closedAndOpen();
        box.step(3);
        box.ring();
        check.due("step(2)", box.step(2), 2);
        check.due("not taken while closed, nor by the step that opens", box.record(6), 1);
        check.due("PC", box.register(8), 5);
        check.due("step(1)", box.step(1), 1);
        check.due("PC", box.register(8), 8);
        check.due("taken", box.record(6), 0);
        check.due("log(0, 0)", box.log(0, 0), 5);
        box.ring();
        check.due("step(2)", box.step(2), 2);
        check.due("not by the step that goes back", box.record(6), 1);
        check.due("PC", box.register(8), 5);
        box.step(1);
        check.due("but by the next one", box.register(8), 8);
        check.due("log(1, 0)", box.log(1, 0), 8);
    }

    private static void beforeAnInstruction(Check check) {
        RewindBox box = closedAndOpen();
        box.step(2);
        box.ring();
        box.step(1);
        check.due("before the step that closes it is open", box.register(8), 8);
        check.due("BACK", box.register(9), 2);
        check.due("log(0, 0)", box.log(0, 0), 2);
        box.step(3);
        check.due("then it is closed", box.register(10), 0);
        check.due("PC", box.register(8), 3);
        RewindBox reading = Asm.started(4, Asm.OPEN, Asm.read(1));
        reading.give(5);
        reading.step(1);
        reading.ring();
        reading.step(1);
        check.due("before an input", reading.register(8), 8);
        check.due("that still waits", reading.record(5), 1);
    }

    private static void insteadOfHaltAndWait(Check check) {
        RewindBox box = Asm.started(4, Asm.OPEN, Asm.read(1), 0, 0, 0, 0, 0, 0, Asm.OPEN);
        check.due("it waits", box.step(5), 1);
        box.ring();
        check.due("a ring wakes it, then it halts", box.step(5), 2);
        check.due("PC", box.register(8), 9);
        check.due("BACK", box.register(9), 1);
        box.ring();
        check.due("a ring wakes it from a halt", box.step(1), 1);
        check.due("BACK", box.register(9), 9);
        check.due("entries", box.record(2), 2);
        RewindBox closed = Asm.started(4, Asm.NOTHING);
        closed.step(1);
        closed.ring();
        check.due("but none that is not open", closed.step(1), 0);
        check.due("record(6)", closed.record(6), 1);
    }

    private static void log(Check check) {
        RewindBox box = Asm.started(4, Asm.read(1), Asm.OPEN, Asm.jump(0), 0, 0, 0, 0, 0, Asm.BACK);
        box.give(70);
        check.due("given alone is not written", box.record(2), 0);
        box.step(2);
        box.ring();
        check.due("rung alone is not written", box.record(2), 1);
        box.step(3);
        box.give(71);
        box.step(1);
        int[] due = {0, 1, 70, 2, 2, 0, 5, 1, 71};
        for (int i = 0; i < due.length; i++) {
            check.due("log(" + i / 3 + ", " + i % 3 + ")", box.log(i / 3, i % 3), due[i]);
        }
        check.due("record(2)", box.record(2), 3);
        box.go(0);
        box.step(6);
        check.due("not written again", box.record(2), 3);
    }

    private static void byTheLog(Check check) {
        RewindBox box = Boxes.busyGoneBack(4);
        check.due("step(44): to one before the end", box.step(44), 44);
        check.due("inputs still wait", box.record(5), 2);
        check.due("a ring still waits", box.record(6), 1);
        check.due("step(1): to the end", box.step(1), 1);
        check.due("inputs still wait", box.record(5), 2);
        check.due("a ring still waits", box.record(6), 1);
        check.due("entries", box.record(2), Boxes.BUSY_ENTRIES);
        check.due("step(1): live", box.step(1), 1);
        check.due("entries", box.record(2), Boxes.BUSY_ENTRIES + 1);
        RewindBox again = Boxes.busy(4);
        again.go(0);
        check.due("step(999)", again.step(999), Boxes.BUSY_END);
        check.due("no snapshot more", again.record(3), Boxes.busy(4).record(3));
        check.due("no page more", again.record(4), Boxes.busy(4).record(4));
    }

    private static void loggedInputs(Check check) {
        RewindBox box = Boxes.reading(4);
        Boxes.give(box, 20);
        box.step(99);
        box.give(-7);
        for (int i = 0; i < 20; i++) {
            box.go(2 * i);
            box.step(1);
            check.due("the input at " + 2 * i, box.register(1), i + 1);
            check.due("the new one waits", box.record(5), 1);
        }
        box.step(2);
        check.due("the new one at the end", box.register(1), -7);
    }

    private static RewindBox spinning() {
        RewindBox box = new RewindBox(4);
        Asm.lay(box, 0, Asm.OPEN, Asm.set(1, 1), Asm.add(2, 2, 1), Asm.jump(2));
        Asm.lay(box, 8, Asm.add(3, 3, 2), Asm.BACK);
        box.start();
        return box;
    }

    private static void loggedRings(Check check) {
        RewindBox box = spinning();
        box.step(7);
        box.ring();
        box.step(10);
        box.ring();
        box.step(1);
        int pc = box.register(8);
        int rounds = box.register(2);
        box.go(0);
        check.due("step(7)", box.step(7), 7);
        check.due("none before", box.register(9), 0);
        check.due("step(1)", box.step(1), 1);
        check.due("one there", box.register(8), 8);
        check.due("none is left over", box.record(6), 0);
        check.due("step(9)", box.step(9), 9);
        check.due("none there", box.register(8) != 8, true);
        check.due("step(1)", box.step(1), 1);
        check.due("one in the last step", box.register(8), pc);
        check.due("register(2)", box.register(2), rounds);
        check.due("no more entries", box.record(2), 2);
    }

    private static void aNewRingWaits(Check check) {
        RewindBox box = spinning();
        box.step(7);
        box.ring();
        box.step(10);
        box.go(5);
        check.due("it is open", box.register(10), 1);
        box.ring();
        check.due("step(3)", box.step(3), 3);
        check.due("the one of the log is taken", box.register(8), 8);
        check.due("the new one is not", box.record(6), 1);
        check.due("step(9)", box.step(9), 9);
        check.due("not before the end", box.record(6), 1);
        check.due("step(1)", box.step(1), 1);
        check.due("but there", box.record(6), 0);
        check.due("log(1, 0)", box.log(1, 0), 17);
        box.go(5);
        box.ring();
        box.cut();
        check.due("step(1) behind a cut", box.step(1), 1);
        check.due("taken there", box.log(0, 0), 5);
    }
}
