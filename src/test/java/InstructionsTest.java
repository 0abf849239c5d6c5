/** Terms: what each instruction does, at the edges of its fields too. */
public final class InstructionsTest {
    private static final Check CHECK = new Check();

    private InstructionsTest() {
    }

    public static void main(String[] args) {
        arithmetic();
        fieldsOfThreeBits();
        setsAndMemory();
        jumps();
        inputsOutsPosition();
        openAndBack();
        othersDoNothing();
        placesGoRound();
        CHECK.end();
    }

    private static RewindBox after(int steps, int... words) {
        RewindBox box = Asm.started(64, words);
        CHECK.due("steps", box.step(steps), steps);
        return box;
    }

    private static int computed(int op, int b, int c) {
        RewindBox box = new RewindBox(64);
        Asm.lay(box, 0, Asm.load(1, 0, 100), Asm.load(2, 0, 101), Asm.word(op, 3, 1, 2));
        Asm.lay(box, 100, b, c);
        box.start();
        box.step(3);
        CHECK.due("b stays", box.register(1), b);
        CHECK.due("c stays", box.register(2), c);
        CHECK.due("PC", box.register(8), 3);
        return box.register(3);
    }

    private static void arithmetic() {
        int[] values = {0, 1, -1, 5, -7, 12345, 65536, Integer.MAX_VALUE, Integer.MIN_VALUE};
        for (int b : values) {
            for (int c : values) {
                CHECK.due(b + " + " + c, computed(1, b, c), (int) ((long) b + c));
                CHECK.due(b + " - " + c, computed(2, b, c), (int) ((long) b - c));
                CHECK.due(b + " * " + c, computed(3, b, c), (int) ((long) b * c));
                CHECK.due(b + " and " + c, computed(4, b, c), b & c);
                CHECK.due(b + " xor " + c, computed(5, b, c), (b | c) & ~(b & c));
            }
        }
    }

    private static void fieldsOfThreeBits() {
        RewindBox box = after(3, Asm.set(8 + 5, 40), Asm.set(0xF8 + 6, 2), Asm.word(2, 0xF8 + 7, 0x80 + 5, 0x78 + 6));
        CHECK.due("register(5)", box.register(5), 40);
        CHECK.due("register(6)", box.register(6), 2);
        CHECK.due("register(7)", box.register(7), 38);
    }

    private static void setsAndMemory() {
        CHECK.due("w 32767", after(1, Asm.set(1, 32767)).register(1), 32767);
        CHECK.due("w -32768", after(1, Asm.set(1, 32768)).register(1), -32768);
        CHECK.due("w -1", after(1, Asm.set(1, 65535)).register(1), -1);
        RewindBox box = after(5, Asm.set(1, 200), Asm.store(1, 1, 127), Asm.store(1, 1, -128),
            Asm.load(2, 1, -128), Asm.load(3, 1, 126));
        CHECK.due("s 127", box.word(327), 200);
        CHECK.due("s -128", box.word(72), 200);
        CHECK.due("register(2)", box.register(2), 200);
        CHECK.due("register(3)", box.register(3), 0);
        RewindBox same = after(2, Asm.set(1, 200), Asm.load(1, 1, 0));
        CHECK.due("a is b", same.register(1), 0);
    }

    private static void jumps() {
        CHECK.due("jump", after(1, Asm.jump(300)).register(8), 300);
        CHECK.due("jump -1", after(1, Asm.jump(-1)).register(8), 511);
        CHECK.due("jump 512", after(1, Asm.jump(512)).register(8), 0);
        CHECK.due("jump -32768", after(1, Asm.jump(-32768)).register(8), 0);
        int[] values = {0, 1, -1, 32767, -32768};
        for (int value : values) {
            int ifZero = after(2, Asm.set(1, value), Asm.wide(10, 1, 700)).register(8);
            CHECK.due(value + " is 0?", ifZero, value == 0 ? 188 : 2);
            int ifBelow = after(2, Asm.set(1, value), Asm.wide(11, 1, -4)).register(8);
            CHECK.due(value + " is below 0?", ifBelow, value < 0 ? 508 : 2);
            int to = after(2, Asm.set(1, value), Asm.jumpTo(1)).register(8);
            CHECK.due("to " + value, to, Math.floorMod(value, 512));
        }
    }

    private static void inputsOutsPosition() {
        RewindBox box = Asm.started(64, Asm.NOTHING, Asm.position(3), Asm.read(4), Asm.out(4), Asm.position(5), Asm.out(5));
        box.give(-9);
        CHECK.due("step(99)", box.step(99), 6);
        CHECK.due("the position before that step", box.register(3), 1);
        CHECK.due("the input", box.register(4), -9);
        CHECK.due("the position before that step", box.register(5), 4);
        CHECK.due("out(0)", box.out(0), -9);
        CHECK.due("out(1)", box.out(1), 4);
        box.go(4);
        box.step(1);
        CHECK.due("the position, done again", box.register(5), 4);
    }

    private static void openAndBack() {
        CHECK.due("open", after(1, Asm.OPEN).register(10), 1);
        CHECK.due("closed", after(2, Asm.OPEN, Asm.CLOSE).register(10), 0);
        RewindBox back = after(2, Asm.NOTHING, Asm.BACK);
        CHECK.due("BACK is 0 at first", back.register(8), 0);
        CHECK.due("and it is open", back.register(10), 1);
        for (int op = 1; op <= 18; op++) {
            if (op < 15 || op == 18) {
                CHECK.due("op " + op + " does not open", openAfter(Asm.NOTHING, op), 0);
                CHECK.due("op " + op + " does not close", openAfter(Asm.OPEN, op), 1);
            }
        }
    }

    private static int openAfter(int first, int op) {
        RewindBox box = Asm.started(64, first, Asm.word(op, 1, 1, 100));
        box.give(3);
        CHECK.due("steps", box.step(2), 2);
        return box.register(10);
    }

    private static void othersDoNothing() {
        for (int op = 19; op <= 255; op++) {
            RewindBox box = after(2, Asm.set(1, 100), Asm.word(op, 1, 1, 1));
            CHECK.due("op " + op + " PC", box.register(8), 2);
            CHECK.due("op " + op + " a", box.register(1), 100);
            CHECK.due("op " + op + " open", box.register(10), 0);
            CHECK.due("op " + op + " outs", box.outs(), 0);
            CHECK.due("op " + op + " entries", box.record(2), 0);
        }
        RewindBox halt = Asm.started(64, Asm.word(0, 1, 2, 3));
        CHECK.due("op 0 with other bits halts", halt.step(5), 0);
    }

    private static void placesGoRound() {
        RewindBox box = new RewindBox(64);
        Asm.lay(box, 0, Asm.jump(511));
        Asm.lay(box, 511, Asm.NOTHING);
        box.start();
        box.step(2);
        CHECK.due("PC behind 511", box.register(8), 0);
        RewindBox below = after(3, Asm.set(1, 7), Asm.store(1, 0, -1), Asm.load(2, 0, -1));
        CHECK.due("place -1", below.word(511), 7);
        CHECK.due("register(2)", below.register(2), 7);
        RewindBox above = after(3, Asm.set(1, 500), Asm.store(1, 1, 100), Asm.load(2, 1, 100));
        CHECK.due("place 600", above.word(88), 500);
        CHECK.due("register(2)", above.register(2), 500);
        RewindBox greatest = new RewindBox(64);
        Asm.lay(greatest, 0, Asm.load(1, 0, 100), Asm.store(1, 1, 100));
        Asm.lay(greatest, 100, Integer.MAX_VALUE);
        greatest.start();
        greatest.step(2);
        CHECK.due("place MAX + 100", greatest.word(99), Integer.MAX_VALUE);
    }
}
