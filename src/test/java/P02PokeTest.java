/** Promise 2: poke. */
public final class P02PokeTest {
    private P02PokeTest() {
    }

    public static void main(String[] args) {
        Cases cases = Cases.ofPromise(2);
        cases.hold("A word of memory becomes v: true;", P02PokeTest::everyPlace);
        cases.hold("A word of memory becomes v", P02PokeTest::everyInt);
        cases.hold("false if there is no such place,", P02PokeTest::placeTooSmall);
        cases.hold("false if there is no such place,", P02PokeTest::placeTooLarge);
        cases.hold("or a record.", P02PokeTest::duringARecord);
        cases.hold("or a record.", P02PokeTest::afterARecord);
        cases.end();
    }

    /** A quarter of the places in each box, so that none of them is used for more than 512 calls. */
    private static void everyPlace(Check check) {
        for (int first = 0; first < 4; first++) {
            RewindBox box = new RewindBox(4);
            for (int place = first; place < 512; place += 4) {
                check.due("poke(" + place + ", ..)", box.poke(place, place * 7 - 1000), true);
            }
            for (int place = first; place < 512; place += 4) {
                check.due("word(" + place + ")", box.word(place), place * 7 - 1000);
            }
            for (int place = (first + 1) % 4; place < 512; place += 4) {
                check.due("word(" + place + ") beside", box.word(place), 0);
            }
        }
    }

    private static void everyInt(Check check) {
        int[] values = {Integer.MAX_VALUE, Integer.MIN_VALUE, -1, 0, 1, 255, 256, 65536, 1 << 24};
        RewindBox box = new RewindBox(4);
        for (int v : values) {
            check.due("poke(0, " + v + ")", box.poke(0, v), true);
            check.due("word(0)", box.word(0), v);
            check.due("poke(511, " + v + ")", box.poke(511, v), true);
            check.due("word(511)", box.word(511), v);
        }
    }

    private static void placeTooSmall(Check check) {
        isRefused(check, -1, -2, -16, -511, -512, -513, Integer.MIN_VALUE + 511, Integer.MIN_VALUE);
    }

    private static void placeTooLarge(Check check) {
        isRefused(check, 512, 513, 1023, 1024, 65536, Integer.MAX_VALUE);
    }

    private static void isRefused(Check check, int... places) {
        for (int place : places) {
            String call = "poke(" + place + ", 9)";
            check.due(call, new RewindBox(4).poke(place, 9), false);
            check.due(call + " in a record", Boxes.busy(4).poke(place, 9), false);
            Twins.stay(check, call, () -> new RewindBox(4), box -> box.poke(place, 9));
        }
    }

    private static void duringARecord(Check check) {
        int[] places = {0, 15, 16, 40, 511};
        for (int place : places) {
            String call = "poke(" + place + ", 4)";
            check.due(call + " at the beginning", Boxes.spinning(4).poke(place, 4), false);
            check.due(call + " at the end", Boxes.busy(4).poke(place, 4), false);
            check.due(call + " gone back", Boxes.busyGoneBack(4).poke(place, 4), false);
            Twins.stay(check, call, () -> Boxes.busyGoneBack(4), box -> box.poke(place, 4));
        }
        check.due("poke(511, 0), as it is", Boxes.busy(4).poke(511, 0), false);
    }

    private static void afterARecord(Check check) {
        RewindBox box = Boxes.busyStopped(4);
        check.due("poke(40, 5)", box.poke(40, 5), true);
        check.due("word(40)", box.word(40), 5);
        box.start();
        check.due("poke(40, 6) in the next one", box.poke(40, 6), false);
        check.due("word(40)", box.word(40), 5);
    }
}
