/** Promise 15: word. */
public final class P15WordTest {
    private P15WordTest() {
    }

    public static void main(String[] args) {
        Cases cases = Cases.ofPromise(15);
        cases.hold("A word of memory;", P15WordTest::everyPlace);
        cases.hold("A word of memory;", P15WordTest::atEachPosition);
        cases.hold("0 if there is no such place.", P15WordTest::tooSmall);
        cases.hold("0 if there is no such place.", P15WordTest::tooLarge);
        cases.end();
    }

    private static void everyPlace(Check check) {
        for (int from = 0; from < 512; from += 128) {
            RewindBox box = new RewindBox(2);
            for (int place = from; place < from + 128; place++) {
                box.poke(place, 1000 + place);
            }
            for (int place = from; place < from + 128; place++) {
                check.due("word(" + place + ")", box.word(place), 1000 + place);
            }
            box.start();
            for (int place = from; place < from + 128; place++) {
                check.due("word(" + place + ") in a record", box.word(place), 1000 + place);
            }
        }
    }

    private static void atEachPosition(Check check) {
        RewindBox box = new RewindBox(2);
        box.poke(511, -3);
        Asm.lay(box, 0, Asm.set(1, 77), Asm.store(1, 0, -1), Asm.store(1, 0, 5));
        box.start();
        check.due("step(3)", box.step(3), 3);
        int[] last = {-3, -3, 77, 77};
        int[] fifth = {0, 0, 0, 77};
        for (int position = 3; position >= 0; position--) {
            box.go(position);
            check.due("word(511) at " + position, box.word(511), last[position]);
            check.due("word(5) at " + position, box.word(5), fifth[position]);
        }
        box.go(2);
        box.stop();
        check.due("word(511) after stop()", box.word(511), 77);
        check.due("word(5) after stop()", box.word(5), 0);
    }

    private static void tooSmall(Check check) {
        isZero(check, -1, -2, -16, -511, -512, -513, Integer.MIN_VALUE + 1, Integer.MIN_VALUE);
    }

    private static void tooLarge(Check check) {
        isZero(check, 512, 513, 528, 1023, 1024, 65536, Integer.MAX_VALUE);
    }

    /** No word near the edges is 0 here, so that one taken modulo 512 would be seen. */
    private static void isZero(Check check, int... places) {
        RewindBox box = new RewindBox(2);
        for (int i = 0; i < 32; i++) {
            box.poke(i, 7000 + i);
            box.poke(511 - i, 8000 + i);
        }
        for (int place : places) {
            check.due("word(" + place + ")", box.word(place), 0);
        }
        box.start();
        for (int place : places) {
            check.due("word(" + place + ") in a record", box.word(place), 0);
        }
        box.stop();
        for (int place : places) {
            check.due("word(" + place + ") after stop()", box.word(place), 0);
        }
        check.due("word(0)", box.word(0), 7000);
        check.due("word(511)", box.word(511), 8000);
    }
}
