/** Terms, "THE MACHINE": its parts and their edges, and the fields of an instruction. */
public final class TermsMachineTest {
    private TermsMachineTest() {
    }

    public static void main(String[] args) {
        Cases cases = Cases.ofTerms("THE MACHINE:");
        cases.hold(14, "THE MACHINE: REGISTERS 0 .. 7 (ints),", TermsMachineTest::registers);
        cases.hold(14, "PC and BACK (places 0 .. 511),", TermsMachineTest::pcAndBack);
        cases.hold(14, "whether it is OPEN to rings;", TermsMachineTest::open);
        cases.hold(15, "MEMORY of 512 words (ints)", TermsMachineTest::memory);
        cases.hold(12, "in 32 PAGES of 16;", TermsMachineTest::pages);
        cases.hold(17, "its OUTS, a row of ints (the first 64 alone are kept).", TermsMachineTest::outs);
        cases.hold(7, "An INSTRUCTION is a word: op (bits 24 .. 31),", TermsMachineTest::op);
        cases.hold(7, "a, b, c (the lowest three bits of 16 .. 23, 8 .. 15, 0 .. 7),", TermsMachineTest::threeBits);
        cases.hold(7, "s (the lowest 8 bits with their sign),", TermsMachineTest::eightBits);
        cases.hold(7, "w (the lowest 16 bits with their sign);", TermsMachineTest::sixteenBits);
        cases.hold(7, "places are taken modulo 512, not below 0.", TermsMachineTest::pcGoesRound);
        cases.hold(7, "places are taken modulo 512, not below 0.", TermsMachineTest::jumpsGoRound);
        cases.hold(7, "places are taken modulo 512, not below 0.", TermsMachineTest::wordsGoRound);
        cases.end();
    }

    private static RewindBox after(int steps, int... words) {
        RewindBox box = Asm.started(64, words);
        box.step(steps);
        return box;
    }

    /** A box whose register 1 is any int, at place 1, in front of these instructions. */
    private static RewindBox with(int value, int... words) {
        RewindBox box = new RewindBox(64);
        Asm.lay(box, 0, Asm.load(1, 0, 120));
        Asm.lay(box, 1, words);
        Asm.lay(box, 120, value);
        box.start();
        box.step(1);
        return box;
    }

    private static void registers(Check check) {
        int[] values = {Integer.MIN_VALUE, Integer.MAX_VALUE, -1, 1, 65536, -65537, 7, 1 << 30};
        RewindBox box = new RewindBox(64);
        for (int i = 0; i < 8; i++) {
            box.poke(i, Asm.load(7 - i, 7, 100 + i));
            box.poke(100 + i, values[i]);
        }
        box.poke(100, 0);
        box.start();
        check.due("step(8)", box.step(8), 8);
        check.due("register(7)", box.register(7), 0);
        for (int i = 1; i < 8; i++) {
            check.due("register(" + (7 - i) + ")", box.register(7 - i), values[i]);
        }
    }

    private static void pcAndBack(Check check) {
        RewindBox box = new RewindBox(64);
        Asm.lay(box, 0, Asm.OPEN, Asm.jump(511));
        Asm.lay(box, 8, Asm.BACK);
        Asm.lay(box, 511, Asm.NOTHING);
        box.start();
        box.step(2);
        check.due("PC", box.register(8), 511);
        box.ring();
        box.step(1);
        check.due("BACK", box.register(9), 511);
        box.step(1);
        check.due("PC is BACK", box.register(8), 511);
        box.step(1);
        check.due("PC behind it", box.register(8), 0);
        box.ring();
        box.step(1);
        check.due("BACK", box.register(9), 0);
        box.step(1);
        check.due("PC is BACK", box.register(8), 0);
    }

    private static void open(Check check) {
        RewindBox box = after(0, Asm.OPEN, Asm.NOTHING, Asm.CLOSE, Asm.NOTHING);
        box.ring();
        check.due("not open", box.register(10), 0);
        box.step(1);
        check.due("open", box.register(10), 1);
        box.step(1);
        check.due("a ring is taken", box.register(8), 8);
        RewindBox closed = after(3, Asm.OPEN, Asm.NOTHING, Asm.CLOSE, Asm.NOTHING);
        closed.ring();
        check.due("step(1)", closed.step(1), 1);
        check.due("none is taken", closed.register(8), 4);
    }

    private static void memory(Check check) {
        int[] values = {Integer.MIN_VALUE, Integer.MAX_VALUE, -1, 1};
        for (int value : values) {
            RewindBox box = with(value, Asm.set(2, 511), Asm.store(1, 2, 0), Asm.load(3, 2, 0), Asm.store(3, 0, 0));
            check.due("step(4)", box.step(4), 4);
            check.due("word(511)", box.word(511), value);
            check.due("register(3)", box.register(3), value);
            check.due("word(0)", box.word(0), value);
        }
    }

    /** Two stores, each into the word that is named, in the two steps before a snapshot. */
    private static int pagesOf(int first, int second) {
        RewindBox box = new RewindBox(4);
        int from = first < 256 ? 300 : 100;
        Asm.lay(box, 0, Asm.jump(from));
        Asm.lay(box, from, Asm.set(1, first), Asm.store(0, 1, 0), Asm.store(0, 1, second - first));
        box.start();
        box.step(4);
        return box.pages(1);
    }

    private static void pages(Check check) {
        for (int page = 0; page < 32; page++) {
            int first = page * 16;
            check.due("words " + first + " and " + (first + 15), pagesOf(first, first + 15), 1);
            check.due("words " + (first + 15) + " and " + first, pagesOf(first + 15, first), 1);
            if (page < 31) {
                check.due("words " + (first + 15) + " and " + (first + 16), pagesOf(first + 15, first + 16), 2);
            }
        }
        check.due("words 0 and 511", pagesOf(0, -1), 2);
        check.due("words 511 and 0", pagesOf(511, 512), 2);
    }

    private static void outs(Check check) {
        RewindBox box = Asm.started(64, Asm.NOTHING, Asm.position(1), Asm.out(1), Asm.jump(1));
        box.step(3 * 66);
        check.due("outs()", box.outs(), 66);
        check.due("out(62)", box.out(62), 187);
        check.due("out(63)", box.out(63), 190);
        check.due("out(64)", box.out(64), 0);
        check.due("out(65)", box.out(65), 0);
        check.due("out(0)", box.out(0), 1);
    }

    private static void op(Check check) {
        for (int bit = 0; bit < 24; bit++) {
            check.due("bit " + bit + " alone halts", after(1, 1 << bit).record(0), 0);
        }
        for (int bit = 24; bit < 32; bit++) {
            check.due("bit " + bit + " is of the op", after(1, 1 << bit).record(0), 1);
        }
        RewindBox box = after(2, Asm.set(1, 5), Asm.word(128 + 6, 1, 0, 9));
        check.due("op 134 is not op 6", box.register(1), 5);
        check.due("op 128 is not a halt", after(1, 128 << 24).record(0), 1);
        check.due("op 140 is not op 12", after(1, 140 << 24).record(0), 1);
    }

    private static void threeBits(Check check) {
        for (int high = 0; high < 256; high += 8) {
            RewindBox box = after(3, Asm.set(high + 5, 40), Asm.set(high + 6, 2), Asm.word(2, high + 7, high + 5, 6));
            check.due("register(5), bits " + high, box.register(5), 40);
            check.due("register(6), bits " + high, box.register(6), 2);
            check.due("register(7), bits " + high, box.register(7), 38);
            RewindBox other = after(3, Asm.set(5, 40), Asm.set(6, 2), Asm.word(2, 7, 5, high + 6));
            check.due("register(7), bits " + high + " of c", other.register(7), 38);
        }
        RewindBox box = after(4, Asm.set(0, 3), Asm.set(7, 4), Asm.word(1, 1, 0, 7), Asm.word(2, 2, 7, 0));
        check.due("3 + 4", box.register(1), 7);
        check.due("4 - 3", box.register(2), 1);
    }

    private static void eightBits(Check check) {
        int[] signed = {0, 1, 127, -128, -127, -1};
        for (int s : signed) {
            RewindBox box = after(3, Asm.set(1, 300), Asm.store(1, 1, s), Asm.load(2, 1, s));
            check.due("word(300 + " + s + ")", box.word(300 + s), 300);
            check.due("register(2)", box.register(2), 300);
        }
    }

    private static void sixteenBits(Check check) {
        int[] signed = {0, 1, 32767, -32768, -32767, -1, 255, 256, -256};
        for (int w : signed) {
            check.due("w " + w, after(1, Asm.set(1, w)).register(1), w);
        }
    }

    private static void pcGoesRound(Check check) {
        RewindBox box = new RewindBox(64);
        Asm.lay(box, 0, Asm.jump(510));
        Asm.lay(box, 510, Asm.NOTHING, Asm.NOTHING);
        box.start();
        int[] due = {510, 511, 0, 510, 511, 0};
        for (int pc : due) {
            box.step(1);
            check.due("PC", box.register(8), pc);
        }
    }

    private static void jumpsGoRound(Check check) {
        int[] wide = {511, 512, 513, 1023, 1024, 32767, -1, -2, -511, -512, -513, -32768};
        for (int w : wide) {
            int due = Math.floorMod(w, 512);
            check.due("op 9 to " + w, after(1, Asm.jump(w)).register(8), due);
            check.due("op 10 to " + w, after(1, Asm.wide(10, 1, w)).register(8), due);
            check.due("op 11 to " + w, after(2, Asm.set(1, -1), Asm.wide(11, 1, w)).register(8), due);
        }
        int[] ints = {511, 512, 513, -1, -512, -513, 65536, Integer.MAX_VALUE, Integer.MIN_VALUE};
        for (int value : ints) {
            RewindBox box = with(value, Asm.jumpTo(1));
            box.step(1);
            check.due("op 18 to " + value, box.register(8), Math.floorMod(value, 512));
        }
    }

    /** The sum is taken as an int or as a whole number: modulo 512 both are the same place. */
    private static void wordsGoRound(Check check) {
        int[] ints = {400, 511, 512, 600, -1, -100, -512, Integer.MAX_VALUE, Integer.MIN_VALUE, Integer.MIN_VALUE + 99};
        int[] signed = {99, 127, -2, -128};
        for (int value : ints) {
            for (int s : signed) {
                int place = (int) Math.floorMod((long) value + s, 512L);
                if (place > 3 && place != 120) {
                    RewindBox box = with(value, Asm.store(1, 1, s), Asm.load(2, 1, s));
                    check.due("steps", box.step(2), 2);
                    check.due("word at " + value + " + " + s, box.word(place), value);
                    check.due("it is loaded", box.register(2), value);
                }
            }
        }
    }
}
