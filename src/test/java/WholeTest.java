/** What holds for an object as a whole: its 512 calls, that no call throws, and what README.md shows. */
public final class WholeTest {
    private static final int[] ODD = {
        Integer.MIN_VALUE, Integer.MIN_VALUE + 1, -513, -512, -1, 0, 1, 7, 8, 10, 11, 39, 40, 63, 64, 100, 299, 300,
        511, 512, 2559, 2560, 10000, 10001, Integer.MAX_VALUE - 1, Integer.MAX_VALUE,
    };

    private WholeTest() {
    }

    public static void main(String[] args) {
        Cases cases = Cases.ofTheWhole("An object is used");
        cases.hold(7, "An object is used for at most 512 calls after it has been made; what later calls answer is free.",
            WholeTest::allCalls);
        cases.hold(10, "An object is used for at most 512 calls", WholeTest::manyCuts);
        cases.also("Promises 1 to 17, no call throws", WholeTest::noCallThrows);
        cases.also("What README.md shows", WholeTest::theReadme);
        cases.end();
    }

    /** Three calls a round, the last of them being call 512. */
    private static void allCalls(Check check) {
        RewindBox box = Boxes.reading(64);
        for (int i = 0; i < 169; i++) {
            check.due("give", box.give(i), 1);
            check.due("step(2)", box.step(2), 2);
            check.due("register(1)", box.register(1), i);
        }
        check.due("record(2)", box.record(2), 169);
        check.due("call 512", box.record(0), 338);
    }

    /** Each round leaves the record in another direction, and fills it again. */
    private static void manyCuts(Check check) {
        RewindBox box = Asm.started(2, Asm.read(1), Asm.store(1, 0, 100), Asm.jump(0));
        for (int i = 0; i < 80; i++) {
            box.give(i);
            box.give(i + 1000);
            check.due("step(6)", box.step(6), 6);
            check.due("word(100)", box.word(100), i + 1000);
            check.due("go(0)", box.go(0), true);
            check.due("cut()", box.cut(), 0);
        }
    }

    private static void noCallThrows(Check check) {
        for (int v : ODD) {
            int answered = 0;
            RewindBox[] boxes = {new RewindBox(v), Boxes.busyGoneBack(v), Boxes.busyStopped(v)};
            for (RewindBox box : boxes) {
                for (int other : ODD) {
                    box.poke(v, other);
                    box.log(v, other);
                    box.log(other, v);
                }
                answered += askAll(box, v);
                box.start();
                answered += askAll(box, v);
            }
            check.due("answers to " + v, answered, 6);
        }
    }

    private static int askAll(RewindBox box, int v) {
        box.give(v);
        box.ring();
        box.step(v);
        box.go(v);
        box.far(v);
        box.record(v);
        box.pages(v);
        box.register(v);
        box.word(v);
        box.outs();
        box.out(v);
        box.cut();
        return 1;
    }

    private static void theReadme(Check check) {
        RewindBox box = Asm.started(4, 0x0C010000, 0x0D010000, 0x09000000);
        box.give(7);
        box.give(8);
        check.due("step(100)", box.step(100), 6);
        check.due("outs()", box.outs(), 2);
        check.due("out(1)", box.out(1), 8);
        check.due("go(3)", box.go(3), true);
        check.due("outs()", box.outs(), 1);
        check.due("step(2)", box.step(2), 2);
        check.due("go(3)", box.go(3), true);
        check.due("cut()", box.cut(), 1);
        check.due("give(9)", box.give(9), 1);
        check.due("step(2)", box.step(2), 2);
        check.due("out(1)", box.out(1), 9);
    }
}
