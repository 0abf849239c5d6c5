/** What holds for an object as a whole: what it is, its 512 calls, and that no call throws. */
public final class WholeTest {
    private static final int[] ODD = {
        Integer.MIN_VALUE, Integer.MIN_VALUE + 1, -513, -512, -1, 0, 1, 7, 8, 10, 11, 39, 40, 63, 64, 100, 299, 300,
        511, 512, 2559, 2560, 10000, 10001, Integer.MAX_VALUE - 1, Integer.MAX_VALUE,
    };

    private WholeTest() {
    }

    public static void main(String[] args) {
        Cases whole = Cases.ofTheWhole("A small machine");
        whole.hold(13, "A small machine whose run is recorded by what came from outside alone,",
            WholeTest::outsideAlone);
        whole.hold(12, "with snapshots now and then of the pages that were written,", WholeTest::pagesWritten);
        whole.hold(8, "so that any moment of it can be gone back to,", WholeTest::anyMoment);
        whole.hold(7, "done again step by step,", WholeTest::stepByStep);
        whole.hold(10, "and left in another direction.", WholeTest::anotherDirection);
        whole.end();
        Cases calls = Cases.ofTheWhole("An object is used");
        calls.hold(7,
            "An object is used for at most 512 calls after it has been made; what later calls answer is free.",
            WholeTest::allCalls);
        calls.hold(10, "An object is used for at most 512 calls", WholeTest::manyCuts);
        calls.also("Promises 1 to 17, no call throws", WholeTest::noCallThrows);
        calls.end();
    }

    /** However long it runs, and whatever it writes and puts out, the log has inputs and rings only. */
    private static void outsideAlone(Check check) {
        RewindBox alone = Asm.started(64, Asm.add(1, 1, 2), Asm.store(1, 0, 100), Asm.out(1), Asm.jump(0));
        check.due("step(9999)", alone.step(9999), 2559);
        check.due("entries where nothing came", alone.record(2), 0);
        RewindBox box = Boxes.busy(4);
        int inputs = 0;
        int rings = 0;
        for (int i = 0; i < box.record(2); i++) {
            inputs += box.log(i, 1) == 1 ? 1 : 0;
            rings += box.log(i, 1) == 2 ? 1 : 0;
        }
        check.due("inputs", inputs, 9);
        check.due("rings", rings, 2);
        check.due("entries", box.record(2), Boxes.BUSY_ENTRIES);
    }

    private static void pagesWritten(Check check) {
        RewindBox box = Asm.started(4, Asm.store(1, 0, 100), Asm.store(1, 0, 120), Asm.NOTHING, Asm.jump(4),
            Asm.NOTHING, Asm.NOTHING, Asm.NOTHING, Asm.store(1, 0, 100), Asm.jump(8));
        box.step(15);
        int[] due = {0, 2, 1, 0, RewindBox.NONE};
        for (int k = 0; k < due.length; k++) {
            check.due("pages(" + k + ")", box.pages(k), due[k]);
        }
        check.due("snapshots", box.record(3), 4);
    }

    private static void areAlike(Check check, String when, RewindBox box, RewindBox other) {
        for (int i = 0; i <= 10; i++) {
            check.due(when + ": register(" + i + ")", box.register(i), other.register(i));
        }
        int[] places = {200, 213, 226, 300, 113, 126, 139, 339, 365};
        for (int place : places) {
            check.due(when + ": word(" + place + ")", box.word(place), other.word(place));
        }
        int outs = other.outs();
        check.due(when + ": outs()", box.outs(), outs);
        check.due(when + ": the last one out", box.out(outs - 1), other.out(outs - 1));
    }

    private static void anyMoment(Check check) {
        for (int position = Boxes.BUSY_END; position >= 0; position--) {
            RewindBox box = Boxes.busy(7);
            check.due("go(" + position + ")", box.go(position), true);
            areAlike(check, "at " + position, box, Boxes.busy(7, position));
        }
    }

    private static void stepByStep(Check check) {
        for (int from = 0; from < Boxes.BUSY_END; from += 15) {
            RewindBox box = Boxes.busy(7);
            box.go(from);
            for (int position = from + 1; position <= from + 15; position++) {
                check.due("step(1) to " + position, box.step(1), 1);
                areAlike(check, "again at " + position, box, Boxes.busy(7, position));
            }
        }
    }

    /** The way up to there is the same, and the way that was left is not there any more. */
    private static void anotherDirection(Check check) {
        RewindBox box = Boxes.busyGoneBack(7);
        int entries = box.cut();
        check.due("step(9999)", box.step(9999) > 0, true);
        check.due("the ring is taken there", box.log(entries, 0), 30);
        check.due("the inputs are taken behind it", box.register(1), 62);
        int end = box.record(1);
        check.due("the end is another one", end != Boxes.BUSY_END, true);
        check.due("go(30)", box.go(30), true);
        areAlike(check, "before it", box, Boxes.busy(7, 30));
        check.due("step(9999)", box.step(9999), end - 30);
        check.due("the same inputs again", box.register(1), 62);
    }

    /** Three calls a round, the last of them being call 512. */
    private static void allCalls(Check check) {
        RewindBox box = Boxes.reading(64);
        for (int i = 0; i < 169; i++) {
            check.due("give", box.give(i), 1);
            check.due("step(2)", box.step(2), 2);
            check.due("register(1)", box.register(1), i);
        }
        check.due("record(2)", box.record(2), 169);
        check.due("call 512", box.record(0), 338);
    }

    /** Each round leaves the record in another direction, and fills it again. */
    private static void manyCuts(Check check) {
        RewindBox box = Asm.started(2, Asm.read(1), Asm.store(1, 0, 100), Asm.jump(0));
        for (int i = 0; i < 80; i++) {
            box.give(i);
            box.give(i + 1000);
            check.due("step(6)", box.step(6), 6);
            check.due("word(100)", box.word(100), i + 1000);
            check.due("go(0)", box.go(0), true);
            check.due("cut()", box.cut(), 0);
        }
    }

    private static void noCallThrows(Check check) {
        for (int v : ODD) {
            int answered = 0;
            RewindBox[] boxes = {new RewindBox(v), Boxes.busyGoneBack(v), Boxes.busyStopped(v)};
            for (RewindBox box : boxes) {
                for (int other : ODD) {
                    box.poke(v, other);
                    box.log(v, other);
                    box.log(other, v);
                }
                answered += askAll(box, v);
                box.start();
                answered += askAll(box, v);
            }
            check.due("answers to " + v, answered, 6);
        }
    }

    private static int askAll(RewindBox box, int v) {
        box.give(v);
        box.ring();
        box.step(v);
        box.go(v);
        box.far(v);
        box.record(v);
        box.pages(v);
        box.register(v);
        box.word(v);
        box.outs();
        box.out(v);
        box.cut();
        return 1;
    }
}
