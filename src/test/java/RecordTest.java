/** Terms: live at the end, by the log before it. */
public final class RecordTest {
    private RecordTest() {
    }

    public static void main(String[] args) {
        Check check = new Check();
        ringsJustWhereTheyWere(check);
        aNewRingWaitsForTheEnd(check);
        snapshotsAreMadeOnce(check);
        theReadme(check);
        check.end();
    }

    private static RewindBox spinning() {
        RewindBox box = new RewindBox(4);
        Asm.lay(box, 0, Asm.OPEN, Asm.set(1, 1), Asm.add(2, 2, 1), Asm.jump(2));
        Asm.lay(box, 8, Asm.add(3, 3, 2), Asm.BACK);
        box.start();
        return box;
    }

    private static void ringsJustWhereTheyWere(Check check) {
        RewindBox box = spinning();
        box.step(7);
        box.ring();
        box.step(10);
        box.ring();
        box.step(10);
        int sum = box.register(3);
        int steps = box.register(2);
        box.go(0);
        check.due("step(7)", box.step(7), 7);
        check.due("no ring before", box.register(3), 0);
        check.due("step(1)", box.step(1), 1);
        check.due("a ring there", box.register(8), 8);
        check.due("none is left over", box.record(6), 0);
        check.due("step(19)", box.step(19), 19);
        check.due("register(3)", box.register(3), sum);
        check.due("register(2)", box.register(2), steps);
        check.due("no more entries", box.record(2), 2);
    }

    private static void aNewRingWaitsForTheEnd(Check check) {
        RewindBox box = spinning();
        box.step(10);
        box.go(5);
        check.due("it is open", box.register(10), 1);
        box.ring();
        check.due("step(5)", box.step(5), 5);
        check.due("not taken before the end", box.record(6), 1);
        check.due("no entry", box.record(2), 0);
        check.due("step(1)", box.step(1), 1);
        check.due("taken at the end", box.record(6), 0);
        check.due("log(0, 0)", box.log(0, 0), 10);
        box.go(5);
        box.ring();
        box.cut();
        check.due("step(1) behind a cut", box.step(1), 1);
        check.due("taken there", box.log(0, 0), 5);
    }

    private static void snapshotsAreMadeOnce(Check check) {
        RewindBox box = Asm.started(4, Asm.NOTHING, Asm.store(0, 0, 100), Asm.store(0, 0, 120), Asm.jump(0));
        box.step(8);
        check.due("snapshots", box.record(3), 3);
        check.due("pages", box.record(4), 4);
        box.go(1);
        check.due("to the end by the log", box.step(7), 7);
        check.due("snapshots", box.record(3), 3);
        check.due("pages", box.record(4), 4);
        box.go(3);
        check.due("over the end", box.step(9), 9);
        check.due("snapshots", box.record(3), 4);
        check.due("pages", box.record(4), 6);
    }

    private static void theReadme(Check check) {
        RewindBox box = Asm.started(4, 0x0C010000, 0x0D010000, 0x09000000);
        box.give(7);
        box.give(8);
        check.due("step(100)", box.step(100), 6);
        check.due("outs()", box.outs(), 2);
        check.due("out(1)", box.out(1), 8);
        check.due("go(3)", box.go(3), true);
        check.due("outs()", box.outs(), 1);
        check.due("step(2)", box.step(2), 2);
        check.due("go(3)", box.go(3), true);
        check.due("cut()", box.cut(), 1);
        check.due("give(9)", box.give(9), 1);
        check.due("step(2)", box.step(2), 2);
        check.due("out(1)", box.out(1), 9);
    }
}
