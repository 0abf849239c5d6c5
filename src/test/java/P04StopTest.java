/** Promise 4: stop. */
public final class P04StopTest {
    private P04StopTest() {
    }

    public static void main(String[] args) {
        Cases cases = Cases.ofPromise(4);
        cases.hold("There is no record any more;", P04StopTest::noRecordAnyMore);
        cases.hold("There is no record any more;", P04StopTest::withoutOne);
        cases.hold("the memory", P04StopTest::memory);
        cases.hold("(registers,", P04StopTest::registers);
        cases.hold("outs, too)", P04StopTest::outs);
        cases.hold("is as it is now.", P04StopTest::goneBack);
        cases.hold("is as it is now.", P04StopTest::refusedCallsLeaveIt);
        cases.end();
    }

    private static void noRecordAnyMore(Check check) {
        RewindBox atOnce = new RewindBox(4);
        atOnce.start();
        atOnce.stop();
        Boxes.haveNoRecord(check, "stopped at once: ", atOnce);
        RewindBox atTheEnd = Boxes.busy(4);
        atTheEnd.stop();
        Boxes.haveNoRecord(check, "at the end: ", atTheEnd);
        Boxes.haveNoRecord(check, "gone back: ", Boxes.busyStopped(4));
    }

    private static void withoutOne(Check check) {
        RewindBox box = new RewindBox(9);
        box.stop();
        Boxes.haveNoRecord(check, "never started: ", box);
        RewindBox twice = Boxes.busyStopped(4);
        twice.stop();
        Boxes.haveNoRecord(check, "stopped twice: ", twice);
        Twins.stay(check, "stop() of a new one", () -> new RewindBox(4), RewindBox::stop);
        Twins.stay(check, "stop() again", () -> Boxes.busyStopped(4), RewindBox::stop);
    }

    private static void memory(Check check) {
        for (int from = 0; from < 512; from += 256) {
            RewindBox box = Boxes.busy(4);
            RewindBox twin = Boxes.busy(4);
            box.stop();
            for (int place = from; place < from + 256; place++) {
                check.due("word(" + place + ")", box.word(place), twin.word(place));
            }
        }
    }

    private static void registers(Check check) {
        RewindBox box = Boxes.busy(4, 27);
        box.stop();
        int[] due = {0, -3, 0, 239, 13, Asm.read(1), 0, 10, 8, 20, 0};
        for (int i = 0; i < due.length; i++) {
            check.due("register(" + i + ")", box.register(i), due[i]);
        }
        RewindBox open = Asm.started(4, Asm.OPEN);
        open.step(1);
        open.stop();
        check.due("it is open", open.register(10), 1);
    }

    private static void outs(Check check) {
        RewindBox box = Boxes.busy(4);
        box.stop();
        check.due("outs()", box.outs(), 9);
        for (int i = 0; i < 9; i++) {
            check.due("out(" + i + ")", box.out(i), 213 + 13 * i);
        }
        check.due("out(9)", box.out(9), 0);
    }

    private static void goneBack(Check check) {
        RewindBox box = Boxes.busy(4);
        check.due("word(213) at the end", box.word(213), -6);
        box.go(9);
        box.stop();
        check.due("word(200)", box.word(200), -7);
        check.due("word(213)", box.word(213), 0);
        check.due("register(3)", box.register(3), 213);
        check.due("PC", box.register(8), 21);
        check.due("BACK", box.register(9), 0);
        check.due("outs()", box.outs(), 1);
        check.due("out(0)", box.out(0), 213);
        check.due("out(1)", box.out(1), 0);
    }

    private static void refusedCallsLeaveIt(Check check) {
        Twins.stay(check, "the calls that a record needs", () -> Boxes.busyStopped(4), box -> {
            box.give(1);
            box.ring();
            box.step(5);
            box.go(0);
            box.far(0);
            box.cut();
        });
    }
}
