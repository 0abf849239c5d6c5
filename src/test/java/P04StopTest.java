/** Promise 4: stop. */
public final class P04StopTest {
    private P04StopTest() {
    }

    public static void main(String[] args) {
        Check check = new Check();
        noRecordAnyMore(check);
        machineAsItIs(check);
        stopWithoutOne(check);
        check.end();
    }

    private static RewindBox atSix() {
        RewindBox box = Asm.started(2,
            Asm.OPEN, Asm.read(1), Asm.store(1, 0, 100), Asm.out(1), Asm.jump(1), 0, 0, 0, Asm.OPEN, Asm.jump(8));
        box.give(77);
        box.step(4);
        box.ring();
        box.step(2);
        box.give(5);
        box.ring();
        return box;
    }

    private static void noRecordAnyMore(Check check) {
        RewindBox box = atSix();
        box.stop();
        for (int what = 0; what <= 6; what++) {
            check.due("record(" + what + ")", box.record(what), RewindBox.NONE);
        }
        check.due("pages(0)", box.pages(0), RewindBox.NONE);
        check.due("log(0, 0)", box.log(0, 0), RewindBox.NONE);
        check.due("step(1)", box.step(1), RewindBox.NONE);
        check.due("give(1)", box.give(1), RewindBox.NONE);
        check.due("ring()", box.ring(), false);
        check.due("go(0)", box.go(0), false);
        check.due("far(0)", box.far(0), RewindBox.NONE);
        check.due("cut()", box.cut(), RewindBox.NONE);
        check.due("poke(0, 0)", box.poke(0, 0), true);
    }

    private static void machineAsItIs(Check check) {
        RewindBox box = atSix();
        box.stop();
        machine(check, box, "at the end: ", 77, 9, 4, 1, 1, 77);
        RewindBox earlier = atSix();
        earlier.go(2);
        earlier.stop();
        machine(check, earlier, "at 2: ", 0, 2, 0, 1, 0, 0);
        check.due("register(1) at 2", earlier.register(1), 77);
        RewindBox pokedAfter = atSix();
        pokedAfter.stop();
        pokedAfter.poke(100, 3);
        machine(check, pokedAfter, "poked: ", 3, 9, 4, 1, 1, 77);
    }

    private static void machine(Check check, RewindBox box, String when, int... due) {
        check.due(when + "word(100)", box.word(100), due[0]);
        check.due(when + "PC", box.register(8), due[1]);
        check.due(when + "BACK", box.register(9), due[2]);
        check.due(when + "open", box.register(10), due[3]);
        check.due(when + "outs()", box.outs(), due[4]);
        check.due(when + "out(0)", box.out(0), due[5]);
    }

    private static void stopWithoutOne(Check check) {
        RewindBox box = new RewindBox(9);
        box.stop();
        box.stop();
        check.due("record(0)", box.record(0), RewindBox.NONE);
        check.due("poke(3, 4)", box.poke(3, 4), true);
    }
}
