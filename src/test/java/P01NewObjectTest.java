/** Promise 1: the interval, the words and that there is no record. */
public final class P01NewObjectTest {
    private static final int[] GIVEN = {Integer.MIN_VALUE, -1, 0, 1, 2, 3, 4, 31, 63, 64, 65, 1000, Integer.MAX_VALUE};
    private static final int[] NEAREST = {2, 2, 2, 2, 2, 3, 4, 31, 63, 64, 64, 64, 64};

    private P01NewObjectTest() {
    }

    public static void main(String[] args) {
        Check check = new Check();
        for (int i = 0; i < GIVEN.length; i++) {
            interval(check, GIVEN[i], NEAREST[i]);
        }
        allWordsAreZero(check, new RewindBox(16));
        nothingThere(check, new RewindBox(16));
        check.end();
    }

    private static void interval(Check check, int given, int nearest) {
        RewindBox box = Asm.started(given, Asm.jump(0));
        String made = "interval " + given + ": ";
        check.due(made + "step(70)", box.step(70), 70);
        check.due(made + "record(3)", box.record(3), 70 / nearest + 1);
        for (int position = 0; position <= 70; position++) {
            check.due(made + "far(" + position + ")", box.far(position), position % nearest);
        }
    }

    private static void allWordsAreZero(Check check, RewindBox box) {
        for (int place = 0; place < 512; place++) {
            check.due("word(" + place + ")", box.word(place), 0);
        }
    }

    private static void nothingThere(Check check, RewindBox box) {
        for (int i = 0; i <= 10; i++) {
            check.due("register(" + i + ")", box.register(i), 0);
        }
        for (int what = -1; what <= 7; what++) {
            check.due("record(" + what + ")", box.record(what), RewindBox.NONE);
        }
        check.due("outs()", box.outs(), 0);
        check.due("out(0)", box.out(0), 0);
        check.due("go(0)", box.go(0), false);
        check.due("poke(0, 1)", box.poke(0, 1), true);
    }
}
