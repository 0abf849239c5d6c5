/** Promise 14: register. */
public final class P14RegisterTest {
    private P14RegisterTest() {
    }

    public static void main(String[] args) {
        Cases cases = Cases.ofPromise(14);
        cases.hold("Register i;", P14RegisterTest::everyRegister);
        cases.hold("8: PC,", P14RegisterTest::pc);
        cases.hold("9: BACK,", P14RegisterTest::back);
        cases.hold("10: 1 if it is open, else 0;", P14RegisterTest::open);
        cases.hold("0 for others.", P14RegisterTest::tooSmall);
        cases.hold("0 for others.", P14RegisterTest::tooLarge);
        cases.hold("(0 before any record.)", P14RegisterTest::beforeAnyRecord);
        cases.end();
    }

    /** Nothing of it is 0 at position 11 but that it is not open, as it is at 10. */
    private static RewindBox set() {
        RewindBox box = new RewindBox(4);
        for (int i = 0; i < 8; i++) {
            box.poke(i, Asm.set(i, 100 + i));
        }
        Asm.lay(box, 8, Asm.OPEN, Asm.NOTHING, Asm.NOTHING);
        box.start();
        box.step(10);
        box.ring();
        box.step(1);
        return box;
    }

    private static void everyRegister(Check check) {
        RewindBox box = set();
        for (int i = 0; i < 8; i++) {
            check.due("register(" + i + ")", box.register(i), 100 + i);
        }
        for (int position = 0; position <= 8; position++) {
            box.go(position);
            for (int i = 0; i < 8; i++) {
                int due = i < position ? 100 + i : 0;
                check.due("register(" + i + ") at " + position, box.register(i), due);
            }
        }
        box.go(11);
        box.stop();
        check.due("register(0) after stop()", box.register(0), 100);
        check.due("register(7) after stop()", box.register(7), 107);
        box.start();
        check.due("register(7) after start()", box.register(7), 0);
    }

    private static void pc(Check check) {
        RewindBox box = set();
        check.due("register(8)", box.register(8), 8);
        for (int position = 0; position <= 10; position++) {
            box.go(position);
            check.due("register(8) at " + position, box.register(8), position);
        }
    }

    private static void back(Check check) {
        RewindBox box = set();
        check.due("register(9)", box.register(9), 10);
        box.go(10);
        check.due("register(9) before the ring", box.register(9), 0);
    }

    private static void open(Check check) {
        RewindBox box = set();
        check.due("register(10)", box.register(10), 0);
        box.go(10);
        check.due("register(10) before the ring", box.register(10), 1);
        box.go(8);
        check.due("register(10) before it was open", box.register(10), 0);
    }

    private static void tooSmall(Check check) {
        isZero(check, -1, -2, -8, -256, Integer.MIN_VALUE + 8, Integer.MIN_VALUE);
    }

    private static void tooLarge(Check check) {
        isZero(check, 11, 12, 16, 18, 256, 512, Integer.MAX_VALUE);
    }

    private static void isZero(Check check, int... numbers) {
        RewindBox box = set();
        RewindBox open = set();
        open.go(10);
        for (int i : numbers) {
            check.due("register(" + i + ")", box.register(i), 0);
            check.due("register(" + i + ") at 10", open.register(i), 0);
            check.due("register(" + i + ") of a new one", new RewindBox(4).register(i), 0);
        }
    }

    private static void beforeAnyRecord(Check check) {
        RewindBox box = new RewindBox(4);
        for (int place = 0; place < 32; place++) {
            box.poke(place, -1);
        }
        for (int i = -1; i <= 11; i++) {
            check.due("register(" + i + ")", box.register(i), 0);
        }
    }
}
