import java.util.ArrayList;
import java.util.List;
import java.util.function.Consumer;
import java.util.function.Supplier;
import java.util.function.ToIntFunction;

/**
 * Two boxes that were made alike, of which one was called once more: if that
 * call was refused, they answer alike, and go on alike.
 */
final class Twins {
    /** A box is used for at most 512 calls, so each pair is asked for a part only. */
    private static final int PARTS = 4;

    private record Look(String call, ToIntFunction<RewindBox> ask) {
    }

    private Twins() {
    }

    static void stay(Check check, String call, Supplier<RewindBox> made, Consumer<RewindBox> refused) {
        for (int part = 0; part < PARTS; part++) {
            RewindBox box = made.get();
            RewindBox twin = made.get();
            refused.accept(box);
            for (Look look : looks(part)) {
                check.due(look.call + " after " + call, look.ask.applyAsInt(box), look.ask.applyAsInt(twin));
            }
        }
    }

    private static List<Look> looks(int part) {
        List<Look> all = new ArrayList<>();
        switch (part) {
            case 0 -> {
                machineAndRecord(all);
                all.add(new Look("step(1)", box -> box.step(1)));
                machineAndRecord(all);
                all.add(new Look("step(3000)", box -> box.step(3000)));
                machineAndRecord(all);
                pages(all);
            }
            case 1 -> words(all, 0);
            case 2 -> words(all, 256);
            default -> {
                log(all);
                outs(all);
                all.add(new Look("poke(300, 1)", box -> box.poke(300, 1) ? 1 : 0));
                all.add(new Look("cut()", RewindBox::cut));
                machineAndRecord(all);
            }
        }
        return all;
    }

    private static void machineAndRecord(List<Look> all) {
        for (int i = 0; i <= 10; i++) {
            int asked = i;
            all.add(new Look("register(" + i + ")", box -> box.register(asked)));
        }
        for (int what = 0; what <= 6; what++) {
            int asked = what;
            all.add(new Look("record(" + what + ")", box -> box.record(asked)));
        }
        all.add(new Look("outs()", RewindBox::outs));
    }

    private static void pages(List<Look> all) {
        for (int k = 0; k <= 40; k++) {
            int asked = k;
            all.add(new Look("pages(" + k + ")", box -> box.pages(asked)));
        }
    }

    private static void words(List<Look> all, int from) {
        for (int place = from; place < from + 256; place++) {
            int asked = place;
            all.add(new Look("word(" + place + ")", box -> box.word(asked)));
        }
    }

    private static void log(List<Look> all) {
        for (int i = 0; i < 40; i++) {
            for (int what = 0; what <= 2; what++) {
                int entry = i;
                int asked = what;
                all.add(new Look("log(" + i + ", " + what + ")", box -> box.log(entry, asked)));
            }
        }
    }

    private static void outs(List<Look> all) {
        for (int i = 0; i <= 64; i++) {
            int asked = i;
            all.add(new Look("out(" + i + ")", box -> box.out(asked)));
        }
    }
}
