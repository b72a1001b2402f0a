/** Makes words of code from their fields. */
final class Words {
    static final int ASK = 0x73;

    private Words() {
    }

    static int fields(int op, int d, int t, int x, int y, int s) {
        return op | d << 7 | t << 12 | x << 15 | y << 20 | s << 25;
    }

    static int withI(int op, int d, int t, int x, int i) {
        return op | d << 7 | t << 12 | x << 15 | i << 20;
    }

    static int number(int t, int d, int x, int i) {
        return withI(0x13, d, t, x, i);
    }

    static int register(int s, int t, int d, int x, int y) {
        return fields(0x33, d, t, x, y, s);
    }

    static int load(int t, int d, int x, int i) {
        return withI(0x03, d, t, x, i);
    }

    static int store(int t, int y, int x, int i) {
        return fields(0x23, i & 31, t, x, y, (i >> 5) & 127);
    }

    static int branch(int t, int x, int y, int distance) {
        int d = (distance & 0x1E) | ((distance >> 11) & 1);
        int s = ((distance >> 5) & 63) | ((distance >> 12) & 1) << 6;
        return fields(0x63, d, t, x, y, s);
    }

    static int jump(int d, int distance) {
        return 0x6F | d << 7 | (distance & 0xFF000) | ((distance >> 11) & 1) << 20
            | ((distance >> 1) & 1023) << 21 | ((distance >> 20) & 1) << 31;
    }

    static int jumpTo(int d, int x, int i) {
        return withI(0x67, d, 0, x, i);
    }

    static WordMachine machine(int... words) {
        WordMachine m = new WordMachine();
        for (int w : words) {
            m.word(w);
        }
        return m;
    }

    /** One step was done and PC is 4, where words start; no register but 0 is 0, and bytes at both ends are not 0. */
    static WordMachine busy(int... words) {
        WordMachine m = machine(jump(0, 4));
        for (int w : words) {
            m.word(w);
        }
        for (int r = 1; r < 32; r++) {
            m.put(r, r * 0x1F2E3D4C + 1);
        }
        for (int k = 0; k < 16; k++) {
            m.poke(k, 0x71 + k);
            m.poke(4080 + k, 0xE8 + k);
        }
        m.run(1);
        return m;
    }
}
