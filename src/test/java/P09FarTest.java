/** Promise 9: far. */
public final class P09FarTest {
    private P09FarTest() {
    }

    public static void main(String[] args) {
        Check check = new Check();
        RewindBox none = new RewindBox(4);
        check.due("far(0) without a record", none.far(0), RewindBox.NONE);
        for (int interval = 2; interval <= 64; interval++) {
            everyPosition(check, interval);
        }
        afterACut(check);
        check.end();
    }

    private static void everyPosition(Check check, int interval) {
        RewindBox box = Asm.started(interval, Asm.jump(0));
        String made = "interval " + interval + ": ";
        check.due(made + "far(0)", box.far(0), 0);
        check.due(made + "far(1) at the beginning", box.far(1), RewindBox.NONE);
        int end = box.step(interval + interval / 2);
        box.go(1);
        for (int position = 0; position <= end; position++) {
            int due = position < interval ? position : position - interval;
            check.due(made + "far(" + position + ")", box.far(position), due);
        }
        check.due(made + "far(end + 1)", box.far(end + 1), RewindBox.NONE);
        check.due(made + "far(-1)", box.far(-1), RewindBox.NONE);
        check.due(made + "far(MIN)", box.far(Integer.MIN_VALUE), RewindBox.NONE);
        check.due(made + "far(MAX)", box.far(Integer.MAX_VALUE), RewindBox.NONE);
        check.due(made + "the position stays", box.record(0), 1);
    }

    private static void afterACut(Check check) {
        RewindBox box = Asm.started(10, Asm.jump(0));
        box.step(35);
        box.go(19);
        box.cut();
        check.due("far(19)", box.far(19), 9);
        check.due("far(20)", box.far(20), RewindBox.NONE);
        check.due("far(35)", box.far(35), RewindBox.NONE);
    }
}
