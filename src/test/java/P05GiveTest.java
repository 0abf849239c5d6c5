/** Promise 5: give. */
public final class P05GiveTest {
    private P05GiveTest() {
    }

    public static void main(String[] args) {
        Check check = new Check();
        withoutARecord(check);
        hundredWait(check);
        theRowGoesRound(check);
        whileGoneBack(check);
        check.end();
    }

    private static void withoutARecord(Check check) {
        RewindBox box = new RewindBox(4);
        box.poke(0, Asm.read(1));
        check.due("give(1)", box.give(1), RewindBox.NONE);
        box.start();
        check.due("none waits", box.record(5), 0);
        check.due("step(1)", box.step(1), 0);
    }

    private static void hundredWait(Check check) {
        RewindBox box = Asm.started(64, Asm.read(1), Asm.out(1), Asm.jump(0));
        for (int i = 1; i <= 100; i++) {
            check.due("give " + i, box.give(-i), i);
        }
        check.due("give 101", box.give(-101), RewindBox.NONE);
        check.due("give 102", box.give(-102), RewindBox.NONE);
        check.due("record(5)", box.record(5), 100);
        check.due("step(1)", box.step(1), 1);
        check.due("give into the free place", box.give(500), 100);
        check.due("and one more", box.give(501), RewindBox.NONE);
        check.due("step(1000)", box.step(1000), 302);
        check.due("the last one", box.register(1), 500);
        check.due("none waits", box.record(5), 0);
        for (int i = 0; i < 64; i++) {
            check.due("out(" + i + ")", box.out(i), -i - 1);
        }
    }

    private static void theRowGoesRound(Check check) {
        RewindBox box = Asm.started(64, Asm.read(1), Asm.jump(0));
        int given = 0;
        int taken = 0;
        for (int round = 0; round < 40; round++) {
            check.due("give", box.give(1000 + given++), given - taken);
            check.due("give", box.give(1000 + given++), given - taken);
            check.due("give", box.give(1000 + given++), given - taken);
            check.due("step(2)", box.step(2), 2);
            check.due("in their order", box.register(1), 1000 + taken++);
            check.due("record(5)", box.record(5), given - taken);
        }
    }

    private static void whileGoneBack(Check check) {
        RewindBox box = Asm.started(4, Asm.read(1), Asm.jump(0));
        box.give(1);
        box.step(2);
        box.go(0);
        check.due("give(2)", box.give(2), 1);
        check.due("step(1)", box.step(1), 1);
        check.due("the logged one comes", box.register(1), 1);
        check.due("the new one waits", box.record(5), 1);
        check.due("step(2)", box.step(2), 2);
        check.due("then the new one comes", box.register(1), 2);
        check.due("none waits", box.record(5), 0);
    }
}
