/** Terms, "A STEP": what a ring and each instruction do. */
public final class TermsStepTest {
    private static final int[] INTS = {0, 1, -1, 5, -7, 12345, 65536, Integer.MAX_VALUE, Integer.MIN_VALUE};

    private TermsStepTest() {
    }

    public static void main(String[] args) {
        Cases cases = Cases.ofTerms("A STEP:");
        cases.hold(6, "A STEP: if a ring is to be taken: BACK becomes PC, PC 8, and it is not open any more.",
            TermsStepTest::ring);
        cases.hold(7, "Else the instruction at PC; PC is one more before it is done:", TermsStepTest::oneMore);
        cases.hold(7, "op 1 a = b + c,", check -> computes(check, 1));
        cases.hold(7, "2 a = b - c,", check -> computes(check, 2));
        cases.hold(7, "3 a = b * c,", check -> computes(check, 3));
        cases.hold(7, "4 a = b and c,", check -> computes(check, 4));
        cases.hold(7, "5 a = b exclusive-or c", check -> computes(check, 5));
        cases.hold(7, "(registers' ints);", TermsStepTest::sameRegister);
        cases.hold(7, "6 a = w;", TermsStepTest::sets);
        cases.hold(7, "7 a = the word at b's int + s;", TermsStepTest::loads);
        cases.hold(7, "8 that word = a's int;", TermsStepTest::stores);
        cases.hold(7, "9 PC = w;", TermsStepTest::jumps);
        cases.hold(7, "10 PC = w if a's int is 0;", TermsStepTest::jumpsIfZero);
        cases.hold(7, "11 PC = w if a's int is below 0;", TermsStepTest::jumpsIfBelow);
        cases.hold(7, "12 a = an input;", TermsStepTest::reads);
        cases.hold(16, "13 a's int goes out;", TermsStepTest::putsOut);
        cases.hold(7, "14 a = the POSITION;", TermsStepTest::position);
        cases.hold(7, "15 PC = BACK, and it is open;", TermsStepTest::back);
        cases.hold(7, "16 it is open;", TermsStepTest::opens);
        cases.hold(7, "17 it is not open;", TermsStepTest::closes);
        cases.hold(7, "18 PC = a's int;", TermsStepTest::jumpsTo);
        cases.hold(7, "0 HALT: no step is done, and PC stays;", TermsStepTest::halts);
        cases.hold(7, "all others nothing.", TermsStepTest::nothing);
        cases.end();
    }

    private static RewindBox after(int steps, int... words) {
        RewindBox box = Asm.started(64, words);
        box.step(steps);
        return box;
    }

    /** Registers 1 and 2 are any ints, and PC is 2, before the instruction. */
    private static RewindBox with(int first, int second, int instruction) {
        RewindBox box = new RewindBox(64);
        Asm.lay(box, 0, Asm.load(1, 0, 100), Asm.load(2, 0, 101), instruction);
        Asm.lay(box, 100, first, second);
        box.start();
        box.step(2);
        return box;
    }

    private static void ring(Check check) {
        RewindBox box = after(2, Asm.OPEN, Asm.jump(300));
        int[] before = new int[8];
        for (int i = 0; i < 8; i++) {
            before[i] = box.register(i);
        }
        box.ring();
        check.due("step(1)", box.step(1), 1);
        check.due("BACK", box.register(9), 300);
        check.due("PC", box.register(8), 8);
        check.due("not open", box.register(10), 0);
        for (int i = 0; i < 8; i++) {
            check.due("register(" + i + ") stays", box.register(i), before[i]);
        }
        check.due("outs()", box.outs(), 0);
        RewindBox instead = after(1, Asm.OPEN, Asm.set(1, 5), 0, 0, 0, 0, 0, 0, Asm.set(2, 6));
        instead.ring();
        instead.step(1);
        check.due("no instruction is done with it", instead.register(1), 0);
        check.due("nor the one at 8", instead.register(2), 0);
        instead.step(1);
        check.due("but then that one", instead.register(2), 6);
        check.due("PC", instead.register(8), 9);
        check.due("BACK stays", instead.register(9), 1);
    }

    private static void oneMore(Check check) {
        RewindBox box = after(0, Asm.NOTHING, Asm.set(1, 7), Asm.store(1, 0, 50), Asm.out(1));
        for (int pc = 1; pc <= 4; pc++) {
            box.step(1);
            check.due("PC", box.register(8), pc);
        }
        check.due("a jump to the next place", after(1, Asm.jump(1)).register(8), 1);
        check.due("a jump to its own place", after(1, Asm.jump(0)).register(8), 0);
        RewindBox own = after(1, Asm.store(0, 0, 0), Asm.set(1, 5));
        check.due("it may write over itself", own.word(0), 0);
        check.due("PC", own.register(8), 1);
        RewindBox next = after(2, Asm.store(0, 0, 1), Asm.set(1, 5));
        check.due("it may write over the next one", next.record(0), 1);
    }

    private static int due(int op, int b, int c) {
        long left = b;
        return switch (op) {
            case 1 -> (int) (left + c);
            case 2 -> (int) (left - c);
            case 3 -> (int) (left * c);
            case 4 -> ~(~b | ~c);
            default -> (b | c) & ~(b & c);
        };
    }

    /** Sums and products that are too great go round, as ints do. */
    private static void computes(Check check, int op) {
        for (int b : INTS) {
            for (int c : INTS) {
                RewindBox box = with(b, c, Asm.word(op, 3, 1, 2));
                box.step(1);
                String of = "op " + op + " of " + b + " and " + c;
                check.due(of, box.register(3), due(op, b, c));
                check.due(of + ": b stays", box.register(1), b);
                check.due(of + ": c stays", box.register(2), c);
                check.due(of + ": PC", box.register(8), 3);
            }
        }
    }

    private static void sameRegister(Check check) {
        for (int op = 1; op <= 5; op++) {
            RewindBox box = with(6, 3, Asm.word(op, 1, 1, 2));
            box.step(1);
            check.due("op " + op + ", a is b", box.register(1), due(op, 6, 3));
            RewindBox other = with(6, 3, Asm.word(op, 2, 1, 2));
            other.step(1);
            check.due("op " + op + ", a is c", other.register(2), due(op, 6, 3));
            RewindBox all = with(6, 3, Asm.word(op, 1, 1, 1));
            all.step(1);
            check.due("op " + op + ", all are a", all.register(1), due(op, 6, 6));
        }
    }

    private static void sets(Check check) {
        int[] wide = {0, 1, -1, 32767, -32768, 127, 128, 255, 256, -129};
        for (int w : wide) {
            RewindBox box = with(99, 98, Asm.set(1, w));
            box.step(1);
            check.due("a = " + w, box.register(1), w);
            check.due("register(2) stays", box.register(2), 98);
        }
    }

    private static void loads(Check check) {
        RewindBox box = with(90, 98, Asm.load(2, 1, 10));
        box.step(1);
        check.due("the word at 90 + 10", box.register(2), 90);
        check.due("b stays", box.register(1), 90);
        RewindBox same = with(110, 98, Asm.load(1, 1, -9));
        same.step(1);
        check.due("the word at 110 - 9, a is b", same.register(1), 98);
        RewindBox program = with(2, 98, Asm.load(3, 1, 0));
        program.step(1);
        check.due("an instruction is a word", program.register(3), Asm.load(3, 1, 0));
    }

    private static void stores(Check check) {
        for (int value : INTS) {
            RewindBox box = with(90, value, Asm.store(2, 1, 60));
            box.step(1);
            check.due("word(150)", box.word(150), value);
            check.due("word(149)", box.word(149), 0);
            check.due("word(151)", box.word(151), 0);
            check.due("a stays", box.register(2), value);
            check.due("b stays", box.register(1), 90);
        }
        RewindBox same = with(90, 0, Asm.store(1, 1, 60));
        same.step(1);
        check.due("word(150), a is b", same.word(150), 90);
    }

    private static void jumps(Check check) {
        int[] places = {0, 1, 2, 3, 8, 300, 511};
        for (int w : places) {
            RewindBox box = with(1, 2, Asm.jump(w));
            box.step(1);
            check.due("to " + w, box.register(8), w);
            check.due("BACK stays", box.register(9), 0);
        }
    }

    private static void jumpsIfZero(Check check) {
        for (int value : INTS) {
            RewindBox box = with(value, 0, Asm.wide(10, 1, 300));
            box.step(1);
            check.due(value + " is 0?", box.register(8), value == 0 ? 300 : 3);
        }
    }

    private static void jumpsIfBelow(Check check) {
        for (int value : INTS) {
            RewindBox box = with(value, -1, Asm.wide(11, 1, 300));
            box.step(1);
            check.due(value + " is below 0?", box.register(8), value < 0 ? 300 : 3);
        }
    }

    private static void reads(Check check) {
        for (int value : INTS) {
            RewindBox box = with(98, 99, Asm.read(1));
            box.give(value);
            box.step(1);
            check.due("the input", box.register(1), value);
            check.due("PC", box.register(8), 3);
            check.due("register(2) stays", box.register(2), 99);
        }
    }

    private static void putsOut(Check check) {
        for (int value : INTS) {
            RewindBox box = with(value, 99, Asm.out(1));
            check.due("outs() before it", box.outs(), 0);
            box.step(1);
            check.due("outs()", box.outs(), 1);
            check.due("out(0)", box.out(0), value);
            check.due("a stays", box.register(1), value);
        }
    }

    private static void position(Check check) {
        check.due("the first step", after(1, Asm.position(2)).register(2), 0);
        check.due("the second step", after(2, Asm.set(2, 9), Asm.position(2)).register(2), 1);
        RewindBox box = Asm.started(3, Asm.position(1), Asm.out(1), Asm.jump(0));
        box.step(30);
        for (int i = 0; i < 10; i++) {
            check.due("round " + i, box.out(i), 3 * i);
        }
        box.go(7);
        box.step(3);
        check.due("done again", box.register(1), 9);
        box.go(27);
        box.cut();
        box.step(1);
        check.due("behind a cut", box.register(1), 27);
        RewindBox rung = after(1, Asm.OPEN, Asm.NOTHING, 0, 0, 0, 0, 0, 0, Asm.position(1));
        rung.ring();
        rung.step(2);
        check.due("a ring is a step, too", rung.register(1), 2);
    }

    private static void back(Check check) {
        RewindBox atFirst = after(2, Asm.NOTHING, Asm.BACK);
        check.due("BACK is 0 at first", atFirst.register(8), 0);
        check.due("it is open", atFirst.register(10), 1);
        RewindBox box = after(2, Asm.OPEN, Asm.jump(300), 0, 0, 0, 0, 0, 0, Asm.NOTHING, Asm.BACK);
        box.ring();
        box.step(2);
        check.due("not open in it", box.register(10), 0);
        box.step(1);
        check.due("PC", box.register(8), 300);
        check.due("BACK stays", box.register(9), 300);
        check.due("open", box.register(10), 1);
    }

    private static void opens(Check check) {
        check.due("open", after(1, Asm.OPEN).register(10), 1);
        check.due("open still", after(2, Asm.OPEN, Asm.OPEN).register(10), 1);
        check.due("PC", after(1, Asm.OPEN).register(8), 1);
        for (int op = 1; op <= 14; op++) {
            check.due("op " + op + " does not open", openAfter(Asm.NOTHING, op), 0);
        }
        check.due("op 18 does not open", openAfter(Asm.NOTHING, 18), 0);
    }

    private static void closes(Check check) {
        check.due("closed", after(2, Asm.OPEN, Asm.CLOSE).register(10), 0);
        check.due("closed still", after(1, Asm.CLOSE).register(10), 0);
        check.due("PC", after(1, Asm.CLOSE).register(8), 1);
        for (int op = 1; op <= 14; op++) {
            check.due("op " + op + " does not close", openAfter(Asm.OPEN, op), 1);
        }
        check.due("op 18 does not close", openAfter(Asm.OPEN, 18), 1);
    }

    private static int openAfter(int first, int op) {
        RewindBox box = Asm.started(64, first, Asm.word(op, 1, 1, 100));
        box.give(3);
        box.step(2);
        return box.register(10);
    }

    private static void jumpsTo(Check check) {
        int[] places = {0, 1, 2, 3, 8, 300, 511};
        for (int place : places) {
            RewindBox box = with(place, 2, Asm.jumpTo(1));
            box.step(1);
            check.due("to " + place, box.register(8), place);
            check.due("a stays", box.register(1), place);
        }
    }

    private static void halts(Check check) {
        int[] words = {0, 1, 255, 65535, 0x00FFFFFF, Asm.word(0, 1, 2, 3)};
        for (int word : words) {
            RewindBox box = after(1, Asm.NOTHING, word, Asm.set(1, 5));
            check.due("step(5) at " + word, box.step(5), 0);
            check.due("PC stays", box.register(8), 1);
            check.due("record(0)", box.record(0), 1);
            check.due("record(1)", box.record(1), 1);
            check.due("register(1)", box.register(1), 0);
            Twins.stay(check, "a halt", () -> after(1, Asm.NOTHING, word), twin -> twin.step(1));
        }
        RewindBox box = Asm.started(2, Asm.NOTHING);
        box.step(9);
        check.due("no snapshot for it", box.record(3), 1);
    }

    private static void nothing(Check check) {
        for (int op = 19; op <= 255; op++) {
            RewindBox box = with(100, 101, Asm.word(op, 1, 2, 120));
            box.give(7);
            check.due("step(1) of op " + op, box.step(1), 1);
            check.due("op " + op + " PC", box.register(8), 3);
            check.due("op " + op + " BACK", box.register(9), 0);
            check.due("op " + op + " open", box.register(10), 0);
            check.due("op " + op + " a", box.register(1), 100);
            check.due("op " + op + " b", box.register(2), 101);
            check.due("op " + op + " word", box.word(221), 0);
            check.due("op " + op + " outs", box.outs(), 0);
            check.due("op " + op + " entries", box.record(2), 0);
        }
    }
}
