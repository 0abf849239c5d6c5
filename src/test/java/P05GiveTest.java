/** Promise 5: give. */
public final class P05GiveTest {
    private P05GiveTest() {
    }

    public static void main(String[] args) {
        Cases cases = Cases.ofPromise(5);
        cases.hold("An input is given:", P05GiveTest::everyInt);
        cases.hold("An input is given:", P05GiveTest::goneBack);
        cases.hold("how many wait;", P05GiveTest::howMany);
        cases.hold("how many wait;", P05GiveTest::theRowGoesRound);
        cases.hold("NONE, and it is not, without a record,", P05GiveTest::withoutARecord);
        cases.hold("or if 100 wait.", P05GiveTest::hundredWait);
        cases.hold("or if 100 wait.", P05GiveTest::roomAgain);
        cases.end();
    }

    private static void everyInt(Check check) {
        int[] values = {0, -1, 1, Integer.MIN_VALUE, Integer.MAX_VALUE, 100, -100};
        RewindBox box = Boxes.reading(64);
        for (int v : values) {
            check.due("give(" + v + ")", box.give(v), 1);
            box.step(1);
            check.due("the input " + v, box.register(1), v);
            box.step(1);
        }
    }

    private static void goneBack(Check check) {
        RewindBox box = Boxes.reading(4);
        box.give(1);
        box.step(2);
        box.go(0);
        check.due("give(2)", box.give(2), 1);
        check.due("step(1)", box.step(1), 1);
        check.due("the logged one comes", box.register(1), 1);
        check.due("the new one waits", box.record(5), 1);
        check.due("step(2)", box.step(2), 2);
        check.due("then the new one comes", box.register(1), 2);
        check.due("none waits", box.record(5), 0);
    }

    private static void howMany(Check check) {
        RewindBox box = Boxes.reading(64);
        for (int i = 1; i <= 100; i++) {
            check.due("give " + i, box.give(-i), i);
        }
        check.due("step(20)", box.step(20), 20);
        check.due("give behind 10 taken ones", box.give(0), 91);
        check.due("record(5)", box.record(5), 91);
    }

    private static void theRowGoesRound(Check check) {
        RewindBox box = Boxes.reading(64);
        int given = 0;
        int taken = 0;
        for (int round = 0; round < 60; round++) {
            check.due("give", box.give(1000 + given++), given - taken);
            check.due("give", box.give(1000 + given++), given - taken);
            check.due("give", box.give(1000 + given++), given - taken);
            check.due("step(4)", box.step(4), 4);
            taken += 2;
            check.due("in their order", box.register(1), 999 + taken);
        }
        check.due("record(5)", box.record(5), 60);
    }

    private static void withoutARecord(Check check) {
        RewindBox fresh = new RewindBox(4);
        fresh.poke(0, Asm.read(1));
        check.due("give(1) of a new one", fresh.give(1), RewindBox.NONE);
        fresh.start();
        check.due("none waits", fresh.record(5), 0);
        check.due("step(1)", fresh.step(1), 0);
        check.due("give(2)", fresh.give(2), 1);
        RewindBox stopped = Boxes.busyStopped(4);
        check.due("give(1) after stop()", stopped.give(1), RewindBox.NONE);
        Twins.stay(check, "give(1)", () -> Boxes.busyStopped(4), box -> box.give(1));
    }

    private static RewindBox withHundred() {
        RewindBox box = Boxes.reading(64);
        Boxes.give(box, 100);
        return box;
    }

    private static void hundredWait(Check check) {
        RewindBox box = withHundred();
        check.due("give 101", box.give(-101), RewindBox.NONE);
        check.due("give 102", box.give(-102), RewindBox.NONE);
        check.due("record(5)", box.record(5), 100);
        check.due("step(1)", box.step(1), 1);
        check.due("the first one is as it was", box.register(1), 1);
        check.due("step(1000)", box.step(1000), 199);
        check.due("the last one", box.register(1), 100);
        check.due("none waits", box.record(5), 0);
        Twins.stay(check, "give 101", P05GiveTest::withHundred, twin -> twin.give(-101));
    }

    private static void roomAgain(Check check) {
        RewindBox box = withHundred();
        check.due("give 101", box.give(-101), RewindBox.NONE);
        box.step(1);
        check.due("give into the free place", box.give(500), 100);
        check.due("and one more", box.give(501), RewindBox.NONE);
        check.due("step(1000)", box.step(1000), 201);
        check.due("the last one", box.register(1), 500);
        check.due("the one before", box.log(99, 2), 100);
        check.due("none waits", box.record(5), 0);
    }
}
