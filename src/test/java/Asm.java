/** Writes instructions, and programs into boxes. */
final class Asm {
    static final int HALT = 0;
    static final int NOTHING = word(19, 0, 0, 0);
    static final int BACK = word(15, 0, 0, 0);
    static final int OPEN = word(16, 0, 0, 0);
    static final int CLOSE = word(17, 0, 0, 0);

    private Asm() {
    }

    static int word(int op, int a, int b, int c) {
        return op << 24 | (a & 255) << 16 | (b & 255) << 8 | c & 255;
    }

    static int wide(int op, int a, int w) {
        return op << 24 | (a & 255) << 16 | w & 65535;
    }

    static int add(int a, int b, int c) {
        return word(1, a, b, c);
    }

    static int set(int a, int w) {
        return wide(6, a, w);
    }

    static int load(int a, int b, int s) {
        return word(7, a, b, s);
    }

    static int store(int a, int b, int s) {
        return word(8, a, b, s);
    }

    static int jump(int w) {
        return wide(9, 0, w);
    }

    static int read(int a) {
        return word(12, a, 0, 0);
    }

    static int out(int a) {
        return word(13, a, 0, 0);
    }

    static int position(int a) {
        return word(14, a, 0, 0);
    }

    static int jumpTo(int a) {
        return word(18, a, 0, 0);
    }

    static void lay(RewindBox box, int place, int... words) {
        for (int i = 0; i < words.length; i++) {
            if (!box.poke(place + i, words[i])) {
                throw new IllegalStateException("a test could not lay its program");
            }
        }
    }

    /** A box with a record that has just begun on a program. */
    static RewindBox started(int interval, int... words) {
        RewindBox box = new RewindBox(interval);
        lay(box, 0, words);
        box.start();
        return box;
    }
}
