/** Promise 2: poke. */
public final class P02PokeTest {
    private static final int[] NO_PLACES = {Integer.MIN_VALUE, -512, -1, 512, 513, 1024, Integer.MAX_VALUE};

    private P02PokeTest() {
    }

    public static void main(String[] args) {
        Check check = new Check();
        allPlaces(check);
        noPlaces(check);
        duringARecord(check);
        check.end();
    }

    private static void allPlaces(Check check) {
        RewindBox even = new RewindBox(4);
        RewindBox odd = new RewindBox(4);
        for (int place = 0; place < 512; place++) {
            RewindBox box = place % 2 == 0 ? even : odd;
            check.due("poke(" + place + ", ..)", box.poke(place, place * 7 - 1000), true);
        }
        for (int place = 0; place < 512; place++) {
            check.due("word(" + place + ") even", even.word(place), place % 2 == 0 ? place * 7 - 1000 : 0);
            check.due("word(" + place + ") odd", odd.word(place), place % 2 == 1 ? place * 7 - 1000 : 0);
        }
        check.due("poke(511, MIN)", even.poke(511, Integer.MIN_VALUE), true);
        check.due("poke(0, MAX)", even.poke(0, Integer.MAX_VALUE), true);
        check.due("word(511)", even.word(511), Integer.MIN_VALUE);
        check.due("word(0)", even.word(0), Integer.MAX_VALUE);
    }

    private static void noPlaces(Check check) {
        RewindBox box = new RewindBox(4);
        for (int place : NO_PLACES) {
            check.due("poke(" + place + ", 9)", box.poke(place, 9), false);
        }
        for (int place = 0; place < 512; place++) {
            check.due("word(" + place + ")", box.word(place), 0);
        }
    }

    private static void duringARecord(Check check) {
        RewindBox box = new RewindBox(4);
        check.due("poke(40, 3)", box.poke(40, 3), true);
        box.start();
        check.due("poke(40, 4) in a record", box.poke(40, 4), false);
        check.due("poke(-1, 4) in a record", box.poke(-1, 4), false);
        check.due("word(40) in a record", box.word(40), 3);
        box.stop();
        check.due("poke(40, 5) after it", box.poke(40, 5), true);
        check.due("word(40) after it", box.word(40), 5);
    }
}
