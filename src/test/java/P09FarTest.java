/** Promise 9: far. */
public final class P09FarTest {
    private P09FarTest() {
    }

    public static void main(String[] args) {
        Cases cases = Cases.ofPromise(9);
        cases.hold("How many steps would have to be done to be at a position from the nearest snapshot",
            P09FarTest::everyPosition);
        cases.hold("that is not behind it:", P09FarTest::besideASnapshot);
        cases.hold("less than the interval.", P09FarTest::lessThanTheInterval);
        cases.hold("How many steps would have to be done", P09FarTest::noneIsDone);
        cases.hold("NONE where go() would be false.", P09FarTest::outside);
        cases.hold("NONE where go() would be false.", P09FarTest::behindACut);
        cases.hold("NONE where go() would be false.", P09FarTest::withoutARecord);
        cases.end();
    }

    private static void everyPosition(Check check) {
        for (int interval = 2; interval <= 64; interval++) {
            RewindBox box = Boxes.spinning(interval);
            int end = box.step(interval * 3 + 1);
            box.go(1);
            int due = 0;
            for (int position = 0; position <= end; position++) {
                check.due("interval " + interval + ": far(" + position + ")", box.far(position), due);
                due = due == interval - 1 ? 0 : due + 1;
            }
        }
    }

    private static void besideASnapshot(Check check) {
        for (int interval = 2; interval <= 64; interval++) {
            RewindBox box = Boxes.spinning(interval);
            box.step(9999);
            String made = "interval " + interval + ": ";
            check.due(made + "far() before the last one", box.far(39 * interval - 1), interval - 1);
            check.due(made + "far() at the last one", box.far(39 * interval), 0);
            check.due(made + "far() behind the last one", box.far(39 * interval + 1), 1);
        }
    }

    private static void lessThanTheInterval(Check check) {
        RewindBox box = Boxes.spinning(1);
        box.step(60);
        for (int position = 0; position <= 60; position++) {
            check.due("far(" + position + ") < 2", box.far(position) < 2, true);
        }
        RewindBox greatest = Boxes.spinning(1000);
        greatest.step(9999);
        check.due("far(63)", greatest.far(63), 63);
        check.due("far(64)", greatest.far(64), 0);
        check.due("far(2559)", greatest.far(2559), 63);
    }

    private static void noneIsDone(Check check) {
        int[] positions = {0, 3, 30, Boxes.BUSY_END};
        for (int position : positions) {
            Twins.stay(check, "far(" + position + ")", () -> Boxes.busyGoneBack(4), box -> box.far(position));
        }
    }

    private static void outside(Check check) {
        check.due("far(1) at the beginning", Boxes.spinning(4).far(1), RewindBox.NONE);
        check.due("far(0) at the beginning", Boxes.spinning(4).far(0), 0);
        int[] positions = {-1, -2, -4, Integer.MIN_VALUE, Boxes.BUSY_END + 1, Boxes.BUSY_END + 4, Integer.MAX_VALUE};
        for (int position : positions) {
            RewindBox box = Boxes.busyGoneBack(4);
            check.due("far(" + position + ")", box.far(position), RewindBox.NONE);
            check.due("go(" + position + ")", box.go(position), false);
            Twins.stay(check, "far(" + position + ")", () -> Boxes.busyGoneBack(4), twin -> twin.far(position));
        }
        check.due("far(the end)", Boxes.busyGoneBack(4).far(Boxes.BUSY_END), Boxes.BUSY_END % 4);
    }

    private static void behindACut(Check check) {
        RewindBox box = Boxes.spinning(10);
        box.step(35);
        box.go(19);
        box.cut();
        check.due("far(19)", box.far(19), 9);
        check.due("far(20)", box.far(20), RewindBox.NONE);
        check.due("far(35)", box.far(35), RewindBox.NONE);
    }

    private static void withoutARecord(Check check) {
        int[] positions = {0, 1, 30, -1, Integer.MIN_VALUE, Integer.MAX_VALUE};
        for (int position : positions) {
            check.due("far(" + position + ") of a new one", new RewindBox(4).far(position), RewindBox.NONE);
            check.due("far(" + position + ") after stop()", Boxes.busyStopped(4).far(position), RewindBox.NONE);
        }
        Twins.stay(check, "far(0)", () -> Boxes.busyStopped(4), box -> box.far(0));
    }
}
