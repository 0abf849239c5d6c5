/** Promise 2: poke. */
public final class P02PokeTest {
    private static final int[] NO_PLACES = {Integer.MIN_VALUE, -512, -1, 512, 513, 1024, Integer.MAX_VALUE};

    private P02PokeTest() {
    }

    public static void main(String[] args) {
        Check check = new Check();
        allPlaces(check);
        noPlaces(check);
        duringARecord(check);
        check.end();
    }

    /** A quarter of the places in each box, so that none of them is used for more than 512 calls. */
    private static void allPlaces(Check check) {
        for (int first = 0; first < 4; first++) {
            RewindBox box = new RewindBox(4);
            for (int place = first; place < 512; place += 4) {
                check.due("poke(" + place + ", ..)", box.poke(place, place * 7 - 1000), true);
            }
            for (int place = first; place < 512; place += 4) {
                check.due("word(" + place + ")", box.word(place), place * 7 - 1000);
            }
            for (int place = (first + 1) % 4; place < 512; place += 4) {
                check.due("word(" + place + ") beside", box.word(place), 0);
            }
        }
        RewindBox box = new RewindBox(4);
        check.due("poke(511, MIN)", box.poke(511, Integer.MIN_VALUE), true);
        check.due("poke(0, MAX)", box.poke(0, Integer.MAX_VALUE), true);
        check.due("word(511)", box.word(511), Integer.MIN_VALUE);
        check.due("word(0)", box.word(0), Integer.MAX_VALUE);
        check.due("poke(0, -1)", box.poke(0, -1), true);
        check.due("word(0)", box.word(0), -1);
    }

    private static void noPlaces(Check check) {
        for (int from = 0; from < 512; from += 256) {
            RewindBox box = new RewindBox(4);
            for (int place : NO_PLACES) {
                check.due("poke(" + place + ", 9)", box.poke(place, 9), false);
            }
            for (int place = from; place < from + 256; place++) {
                check.due("word(" + place + ")", box.word(place), 0);
            }
        }
    }

    private static void duringARecord(Check check) {
        RewindBox box = new RewindBox(4);
        check.due("poke(40, 3)", box.poke(40, 3), true);
        box.start();
        check.due("poke(40, 4) in a record", box.poke(40, 4), false);
        check.due("poke(-1, 4) in a record", box.poke(-1, 4), false);
        check.due("word(40) in a record", box.word(40), 3);
        box.stop();
        check.due("poke(40, 5) after it", box.poke(40, 5), true);
        check.due("word(40) after it", box.word(40), 5);
    }
}
