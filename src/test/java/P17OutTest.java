/** Promise 17: out. */
public final class P17OutTest {
    private P17OutTest() {
    }

    public static void main(String[] args) {
        Cases cases = Cases.ofPromise(17);
        cases.hold("Int i of them, from 0 on;", P17OutTest::everyInt);
        cases.hold("Int i of them, from 0 on;", P17OutTest::theFirstSixtyFour);
        cases.hold("Int i of them, from 0 on;", P17OutTest::anotherDirection);
        cases.hold("0 if there is none such,", P17OutTest::noneAtAll);
        cases.hold("0 if there is none such,", P17OutTest::tooSmall);
        cases.hold("0 if there is none such,", P17OutTest::tooLarge);
        cases.hold("0 if there is none such,", P17OutTest::behindThePosition);
        cases.hold("or it was not kept.", P17OutTest::notKept);
        cases.end();
    }

    /** Puts out 1, 4, 7, .. in every third step. */
    private static RewindBox counting() {
        return Asm.started(10, Asm.NOTHING, Asm.position(1), Asm.out(1), Asm.jump(1));
    }

    /** So many ints went out: the last step was the one that put one out. */
    private static RewindBox counted(int outs) {
        RewindBox box = counting();
        box.step(3 * outs);
        return box;
    }

    private static void everyInt(Check check) {
        int[] values = {0, -1, 1, Integer.MIN_VALUE, Integer.MAX_VALUE, 64, -64};
        RewindBox box = Asm.started(4, Asm.read(1), Asm.out(1), Asm.jump(0));
        for (int i = 0; i < values.length; i++) {
            box.give(values[i]);
            box.step(3);
            check.due("out(" + i + ")", box.out(i), values[i]);
        }
        for (int i = 0; i < values.length; i++) {
            check.due("out(" + i + ") later", box.out(i), values[i]);
        }
    }

    private static void theFirstSixtyFour(Check check) {
        RewindBox box = counted(64);
        check.due("outs()", box.outs(), 64);
        for (int i = 0; i < 64; i++) {
            check.due("out(" + i + ")", box.out(i), 3 * i + 1);
        }
        box.step(30);
        check.due("outs()", box.outs(), 74);
        for (int i = 0; i < 64; i++) {
            check.due("out(" + i + ") behind them", box.out(i), 3 * i + 1);
        }
        box.stop();
        check.due("out(63) after stop()", box.out(63), 190);
    }

    private static void anotherDirection(Check check) {
        RewindBox box = Asm.started(4, Asm.read(1), Asm.out(1), Asm.jump(0));
        Boxes.give(box, 3);
        box.step(99);
        box.go(3);
        box.cut();
        box.give(99);
        box.step(2);
        check.due("out(0)", box.out(0), 1);
        check.due("out(1) another one", box.out(1), 99);
        check.due("out(2)", box.out(2), 0);
        box.go(0);
        box.step(100);
        check.due("out(0) by the log", box.out(0), 1);
        check.due("out(1) by the log", box.out(1), 99);
    }

    private static void noneAtAll(Check check) {
        int[] numbers = {0, 1, 63, 64, -1, Integer.MIN_VALUE, Integer.MAX_VALUE};
        RewindBox again = counted(70);
        again.start();
        for (int i : numbers) {
            check.due("out(" + i + ") of a new one", new RewindBox(4).out(i), 0);
            check.due("out(" + i + ") at the beginning", counting().out(i), 0);
            check.due("out(" + i + ") after start()", again.out(i), 0);
        }
    }

    private static void tooSmall(Check check) {
        int[] numbers = {-1, -2, -63, -64, Integer.MIN_VALUE + 1, Integer.MIN_VALUE};
        for (int i : numbers) {
            check.due("out(" + i + ")", counted(3).out(i), 0);
            check.due("out(" + i + ") of 70", counted(70).out(i), 0);
        }
    }

    private static void tooLarge(Check check) {
        for (int outs = 1; outs <= 63; outs++) {
            RewindBox box = counted(outs);
            check.due("out(" + (outs - 1) + ") of " + outs, box.out(outs - 1), 3 * outs - 2);
            check.due("out(" + outs + ") of " + outs, box.out(outs), 0);
            check.due("out(63) of " + outs, box.out(63), 0);
            check.due("out(MAX) of " + outs, box.out(Integer.MAX_VALUE), 0);
        }
    }

    private static void behindThePosition(Check check) {
        RewindBox box = counted(70);
        box.go(8);
        check.due("out(1) before the position", box.out(1), 4);
        check.due("out(2) behind it", box.out(2), 0);
        check.due("out(63) behind it", box.out(63), 0);
        box.go(9);
        check.due("out(2) before the position", box.out(2), 7);
        box.go(0);
        check.due("out(0) behind it", box.out(0), 0);
        box.stop();
        check.due("out(0) after stop()", box.out(0), 0);
    }

    private static void notKept(Check check) {
        int[] numbers = {64, 65, 69, 70, 128, Integer.MAX_VALUE};
        for (int i : numbers) {
            check.due("out(" + i + ") of 70", counted(70).out(i), 0);
        }
        check.due("out(64) of 65", counted(65).out(64), 0);
        check.due("out(63) of 65", counted(65).out(63), 190);
        RewindBox box = counted(70);
        box.go(0);
        box.step(210);
        check.due("out(64) by the log", box.out(64), 0);
        check.due("out(0) by the log", box.out(0), 1);
    }
}
