/** Promise 15: word. */
public final class P15WordTest {
    private P15WordTest() {
    }

    public static void main(String[] args) {
        Check check = new Check();
        RewindBox box = new RewindBox(2);
        box.poke(511, -3);
        box.poke(0, Asm.set(1, 77));
        box.poke(1, Asm.store(1, 0, -1));
        box.poke(2, Asm.store(1, 0, 5));
        noPlaces(check, box);
        check.due("word(511)", box.word(511), -3);
        check.due("word(0)", box.word(0), Asm.set(1, 77));
        box.start();
        noPlaces(check, box);
        check.due("word(511) at 0", box.word(511), -3);
        box.step(2);
        check.due("word(511) at 2", box.word(511), 77);
        check.due("word(5) at 2", box.word(5), 0);
        box.step(1);
        check.due("word(5) at 3", box.word(5), 77);
        box.go(2);
        check.due("word(5) gone back", box.word(5), 0);
        check.due("word(511) gone back", box.word(511), 77);
        box.go(1);
        check.due("word(511) gone back", box.word(511), -3);
        box.go(3);
        box.stop();
        check.due("word(5) after stop", box.word(5), 77);
        check.due("word(511) after stop", box.word(511), 77);
        noPlaces(check, box);
        check.end();
    }

    private static void noPlaces(Check check, RewindBox box) {
        int[] others = {Integer.MIN_VALUE, -512, -1, 512, 513, 1023, Integer.MAX_VALUE};
        for (int place : others) {
            check.due("word(" + place + ")", box.word(place), 0);
        }
    }
}
