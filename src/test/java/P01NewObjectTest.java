/** Promise 1: a new object. */
public final class P01NewObjectTest {
    private P01NewObjectTest() {
    }

    public static void main(String[] args) {
        Cases cases = Cases.ofPromise(1);
        cases.hold("An interval of 2 .. 64 steps", P01NewObjectTest::everyInterval);
        cases.hold("(what is less", P01NewObjectTest::tooSmall);
        cases.hold("or more is the nearest of these);", P01NewObjectTest::tooLarge);
        cases.hold("all words are 0,", P01NewObjectTest::allWordsAreZero);
        cases.hold("there is no record.", P01NewObjectTest::noRecord);
        cases.end();
    }

    private static void everyInterval(Check check) {
        for (int interval = 2; interval <= 64; interval++) {
            hasInterval(check, interval, interval);
        }
    }

    private static void tooSmall(Check check) {
        int[] given = {1, 0, -1, -2, -3, -64, -65, Integer.MIN_VALUE + 2, Integer.MIN_VALUE};
        for (int interval : given) {
            hasInterval(check, interval, 2);
        }
    }

    private static void tooLarge(Check check) {
        int[] given = {65, 66, 127, 128, 256, 258, 65538, Integer.MAX_VALUE};
        for (int interval : given) {
            hasInterval(check, interval, 64);
        }
    }

    private static void hasInterval(Check check, int given, int interval) {
        RewindBox box = Boxes.spinning(given);
        String made = "RewindBox(" + given + "): ";
        for (int k = 1; k <= 3; k++) {
            box.step(interval - 1);
            check.due(made + "snapshots before place " + k, box.record(3), k);
            check.due(made + "far() before place " + k, box.far(k * interval - 1), interval - 1);
            box.step(1);
            check.due(made + "snapshots at place " + k, box.record(3), k + 1);
            check.due(made + "far() at place " + k, box.far(k * interval), 0);
        }
    }

    private static void allWordsAreZero(Check check) {
        RewindBox box = new RewindBox(16);
        for (int place = 0; place < 512; place++) {
            check.due("word(" + place + ")", box.word(place), 0);
        }
    }

    private static void noRecord(Check check) {
        Boxes.haveNoRecord(check, "new: ", new RewindBox(16));
        Boxes.haveNoRecord(check, "new with 0: ", new RewindBox(0));
    }
}
