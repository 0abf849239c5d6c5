/** Promise 13: log. */
public final class P13LogTest {
    private P13LogTest() {
    }

    public static void main(String[] args) {
        Cases cases = Cases.ofPromise(13);
        cases.hold("Of entry i of the log,", P13LogTest::everyEntry);
        cases.hold("Of entry i of the log,", P13LogTest::whileGoneBack);
        cases.hold("what 0: the position,", P13LogTest::position);
        cases.hold("1: 1 an input, 2 a ring,", P13LogTest::kind);
        cases.hold("2: the input", P13LogTest::input);
        cases.hold("(0 of a ring);", P13LogTest::zeroOfARing);
        cases.hold("NONE if there is none such.", P13LogTest::emptyLog);
        cases.hold("NONE if there is none such.", P13LogTest::entryTooSmall);
        cases.hold("NONE if there is none such.", P13LogTest::entryTooLarge);
        cases.hold("NONE if there is none such.", P13LogTest::anotherWhat);
        cases.hold("NONE if there is none such.", P13LogTest::withoutARecord);
        cases.end();
    }

    /** A ring at 1 and 13, inputs at 4, 7 and 10. */
    private static RewindBox logging() {
        RewindBox box = new RewindBox(4);
        Asm.lay(box, 0, Asm.OPEN, Asm.read(1), Asm.NOTHING, Asm.jump(1));
        Asm.lay(box, 8, Asm.NOTHING, Asm.BACK);
        box.start();
        box.give(42);
        box.ring();
        box.step(2);
        box.give(-1);
        box.give(Integer.MIN_VALUE);
        box.step(100);
        box.ring();
        box.step(1);
        return box;
    }

    private static void entry(Check check, RewindBox box, int i, int... due) {
        for (int what = 0; what < due.length; what++) {
            check.due("log(" + i + ", " + what + ")", box.log(i, what), due[what]);
        }
    }

    private static void all(Check check, RewindBox box) {
        entry(check, box, 0, 1, 2, 0);
        entry(check, box, 1, 4, 1, 42);
        entry(check, box, 2, 7, 1, -1);
        entry(check, box, 3, 10, 1, Integer.MIN_VALUE);
        entry(check, box, 4, 13, 2, 0);
        entry(check, box, 5, -1, -1, -1);
    }

    private static void everyEntry(Check check) {
        all(check, logging());
    }

    private static void whileGoneBack(Check check) {
        RewindBox box = logging();
        box.go(0);
        all(check, box);
        box.step(7);
        all(check, box);
        box.cut();
        entry(check, box, 1, 4, 1, 42);
        entry(check, box, 2, -1, -1, -1);
    }

    private static void position(Check check) {
        RewindBox box = Boxes.reading(64);
        Boxes.give(box, 100);
        box.step(1000);
        for (int i = 0; i < 100; i++) {
            check.due("log(" + i + ", 0)", box.log(i, 0), 2 * i);
        }
    }

    private static void kind(Check check) {
        RewindBox box = logging();
        check.due("a ring", box.log(0, 1), 2);
        check.due("an input", box.log(1, 1), 1);
        box.go(13);
        box.cut();
        box.give(5);
        box.step(1);
        check.due("an input where a ring was", box.log(4, 1), 1);
        check.due("it", box.log(4, 2), 5);
    }

    private static void input(Check check) {
        int[] values = {0, 1, -1, 300, Integer.MIN_VALUE, Integer.MAX_VALUE};
        RewindBox box = Boxes.reading(64);
        for (int i = 0; i < values.length; i++) {
            box.give(values[i]);
            box.step(2);
            check.due("log(" + i + ", 2)", box.log(i, 2), values[i]);
        }
    }

    private static void zeroOfARing(Check check) {
        RewindBox box = Boxes.reading(64);
        box.give(77);
        box.step(2);
        box.stop();
        Asm.lay(box, 0, Asm.OPEN, Asm.jump(1));
        box.start();
        box.ring();
        box.give(78);
        check.due("step(2)", box.step(2), 2);
        entry(check, box, 0, 1, 2, 0);
    }

    private static void emptyLog(Check check) {
        RewindBox box = Boxes.reading(4);
        box.give(5);
        box.ring();
        entry(check, box, 0, -1, -1, -1);
        box.step(1);
        entry(check, box, 0, 0, 1, 5);
        box.go(0);
        box.cut();
        entry(check, box, 0, -1, -1, -1);
    }

    private static void entryTooSmall(Check check) {
        int[] numbers = {-1, -2, -300, Integer.MIN_VALUE};
        for (int i : numbers) {
            entry(check, logging(), i, -1, -1, -1);
        }
    }

    private static void entryTooLarge(Check check) {
        int[] numbers = {5, 6, 299, 300, 301, 512, Integer.MAX_VALUE};
        for (int i : numbers) {
            entry(check, logging(), i, -1, -1, -1);
        }
        RewindBox full = Boxes.reading(64);
        for (int i = 0; i < 3; i++) {
            Boxes.give(full, 100);
            full.step(200);
        }
        entry(check, full, 299, 598, 1, 100);
        entry(check, full, 300, -1, -1, -1);
    }

    private static void anotherWhat(Check check) {
        int[] others = {-1, -2, 3, 4, 256, Integer.MIN_VALUE, Integer.MAX_VALUE};
        for (int what : others) {
            check.due("log(0, " + what + ")", logging().log(0, what), RewindBox.NONE);
            check.due("log(1, " + what + ")", logging().log(1, what), RewindBox.NONE);
            check.due("log(5, " + what + ")", logging().log(5, what), RewindBox.NONE);
        }
    }

    private static void withoutARecord(Check check) {
        entry(check, new RewindBox(4), 0, -1, -1, -1);
        RewindBox box = logging();
        box.stop();
        entry(check, box, 0, -1, -1, -1);
        entry(check, box, 4, -1, -1, -1);
        box.start();
        entry(check, box, 0, -1, -1, -1);
    }
}
