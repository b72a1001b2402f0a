/** The edges that "Terms" names for OP 0x03 and 0x23: signs, widths, distances and addresses. */
public final class AddressEdgeTest {
    private static final int LEAST = Integer.MIN_VALUE;
    private static final int MOST = Integer.MAX_VALUE;
    private static final int[] WIDTH = {1, 2, 4, 0, 1, 2};
    private static final int[] LOADS = {0, 1, 2, 4, 5};
    private static final int[] STORES = {0, 1, 2};
    private static final Due DUE = new Due();

    public static void main(String[] args) {
        loadsHaveTheirSign();
        loadsWithoutSign();
        onlyTheLowestBitsAreStored();
        loadDistancesHaveTheirSign();
        storeDistancesHaveTheirSign();
        addressesWrap();
        theFirstAndTheLastAddress();
        addressesOutside();
        addressesThatAreNoMultiple();
        DUE.end();
    }

    private static void loads(int t, int value, int want) {
        WordMachine m = Words.machine(Words.load(t, 5, 6, 0));
        m.put(6, 100);
        for (int k = 0; k < 4; k++) {
            m.poke(100 + k, k < WIDTH[t] ? value >> 8 * k : 0x5A);
        }
        m.poke(99, 0xA5);
        DUE.is("run(1), load T " + t + " of " + value, m.run(1), 0);
        DUE.is("get(5), load T " + t + " of " + value, m.get(5), want);
    }

    private static void loadsHaveTheirSign() {
        DUE.sentence("0 a byte with its sign, 1 a half, 2 a word");
        int[][] bytes = {{0, 0}, {1, 1}, {127, 127}, {128, -128}, {254, -2}, {255, -1}};
        for (int[] c : bytes) {
            loads(0, c[0], c[1]);
        }
        int[][] halves = {{0, 0}, {255, 255}, {256, 256}, {32767, 32767}, {32768, -32768}, {65280, -256}, {65535, -1}};
        for (int[] c : halves) {
            loads(1, c[0], c[1]);
        }
        int[] words = {0, 65535, 65536, MOST, LEAST, -1, -65536};
        for (int v : words) {
            loads(2, v, v);
        }
    }

    private static void loadsWithoutSign() {
        DUE.sentence("4 and 5 byte and half without");
        int[] bytes = {0, 1, 127, 128, 254, 255};
        for (int v : bytes) {
            loads(4, v, v);
        }
        int[] halves = {0, 255, 256, 32767, 32768, 65280, 65535};
        for (int v : halves) {
            loads(5, v, v);
        }
    }

    private static void onlyTheLowestBitsAreStored() {
        DUE.sentence("by T 0 the lowest byte of y, 1 half, 2 word");
        int[] values = {0, -1, 0x12345678, 0xFEDCBA98, LEAST, MOST};
        for (int v : values) {
            for (int t : STORES) {
                for (int a = 100; a < 104; a += WIDTH[t]) {
                    stores(t, a, v);
                }
            }
        }
    }

    private static void stores(int t, int a, int v) {
        WordMachine m = Words.machine(Words.store(t, 5, 6, 0));
        for (int b = 96; b < 108; b++) {
            m.poke(b, b);
        }
        m.put(5, v);
        m.put(6, a);
        String call = "store T " + t + " of " + v + " to " + a;
        DUE.is("run(1), " + call, m.run(1), 0);
        for (int b = 96; b < 108; b++) {
            boolean stored = b >= a && b < a + WIDTH[t];
            DUE.is("peek(" + b + "), " + call, m.peek(b), stored ? v >> 8 * (b - a) & 255 : b);
        }
        DUE.is("get(5), " + call, m.get(5), v);
        DUE.is("pc(), " + call, m.pc(), 4);
    }

    private static void loadDistancesHaveTheirSign() {
        DUE.sentence("OP 0x03: by T from address x + I");
        int[][] cases = {{0x000, 0}, {0x001, 1}, {0x01F, 31}, {0x020, 32}, {0x7FF, 2047}, {0x800, -2048}, {0xFFF, -1},
            {0xFE0, -32}};
        for (int[] c : cases) {
            WordMachine m = Words.machine(0x03 | 5 << 7 | 4 << 12 | 6 << 15 | c[0] << 20);
            m.put(6, 2048);
            m.poke(2048 + c[1], 77);
            DUE.is("run(1) with distance " + c[1], m.run(1), 0);
            DUE.is("get(5) with distance " + c[1], m.get(5), 77);
        }
    }

    private static void storeDistancesHaveTheirSign() {
        DUE.sentence("OP 0x23: to address x + (S and D as 12 bits with their sign)");
        int[][] cases = {{0, 0, 0}, {0, 1, 1}, {0, 31, 31}, {1, 0, 32}, {63, 31, 2047}, {64, 0, -2048}, {64, 1, -2047},
            {127, 31, -1}, {127, 0, -32}};
        for (int[] c : cases) {
            WordMachine m = Words.machine(0x23 | c[1] << 7 | 6 << 15 | 5 << 20 | c[0] << 25);
            m.put(5, 77);
            m.put(6, 2048);
            DUE.is("run(1) with S " + c[0] + " and D " + c[1], m.run(1), 0);
            DUE.is("peek with S " + c[0] + " and D " + c[1], m.peek(2048 + c[2]), 77);
            DUE.is("get(" + c[1] + "), D is no register here", m.get(c[1]), c[1] == 5 ? 77 : 0);
        }
    }

    private static void addressesWrap() {
        DUE.sentence("Numbers wrap: addresses too");
        int[][] cases = {{-4, 4, 0}, {-1, 1, 0}, {-2048, 2047, -1}, {-2047, 2047, 0}, {4095 + 2048, -2048, 4095},
            {4096 + 2048, -2048, 4096}, {MOST, 2047, LEAST + 2046}, {LEAST, -2048, MOST - 2047}};
        for (int[] c : cases) {
            WordMachine m = Words.machine(Words.store(0, 5, 6, c[1]), Words.load(4, 7, 6, c[1]));
            m.put(5, 99);
            m.put(6, c[0]);
            boolean inside = c[2] >= 0 && c[2] < 4096;
            DUE.is("run(2) at " + c[0] + " + " + c[1], m.run(2), inside ? 0 : 4);
            DUE.is("peek(" + c[2] + ")", m.peek(c[2]), inside ? 99 : -1);
            DUE.is("get(7)", m.get(7), inside ? 99 : 0);
        }
    }

    private static void theFirstAndTheLastAddress() {
        DUE.sentence("an address (of all bytes) lies outside: the first and the last inside");
        for (int t : LOADS) {
            int[] places = {0, 4096 - WIDTH[t]};
            for (int a : places) {
                WordMachine m = Words.machine(Words.store(t & 3, 5, 6, 0), Words.load(t, 7, 6, 0));
                m.put(5, 0x41);
                m.put(6, a);
                DUE.is("run(2), T " + t + " at " + a, m.run(2), 0);
                DUE.is("peek(" + a + ")", m.peek(a), 0x41);
                DUE.is("get(7), T " + t + " at " + a, m.get(7), 0x41);
                DUE.is("steps(), T " + t + " at " + a, m.steps(), 2);
            }
        }
    }

    private static void stopsWith4(int a, int t, boolean isLoad) {
        int w = isLoad ? Words.load(t, 5, 6, 0) : Words.store(t, 5, 6, 0);
        State.nothingDone(DUE, "run(1), " + (isLoad ? "load" : "store") + " T " + t + " at " + a, () -> {
            WordMachine m = Words.busy(w);
            m.put(6, a);
            return m;
        }, m -> m.run(1), 4);
    }

    private static void addressesOutside() {
        DUE.sentence("4 an address (of all bytes) lies outside");
        int[] places = {-4, 4096, 4100, 65536, LEAST, MOST - 3};
        for (int a : places) {
            for (int t : LOADS) {
                stopsWith4(a, t, true);
            }
            for (int t : STORES) {
                stopsWith4(a, t, false);
            }
        }
        int[] bytes = {-1, MOST};
        for (int a : bytes) {
            stopsWith4(a, 0, true);
            stopsWith4(a, 4, true);
            stopsWith4(a, 0, false);
        }
        int[] halves = {-2, 4095, 4098, MOST - 1};
        for (int a : halves) {
            stopsWith4(a, 1, true);
            stopsWith4(a, 5, true);
            stopsWith4(a, 1, false);
        }
        int[] words = {-3, -2, -1, 4093, 4094, 4095};
        for (int a : words) {
            stopsWith4(a, 2, true);
            stopsWith4(a, 2, false);
        }
    }

    private static void addressesThatAreNoMultiple() {
        DUE.sentence("4 an address .. is no multiple of the width");
        for (int a = 0; a < 8; a++) {
            for (int t : LOADS) {
                multipleOrNot(a, t, true);
            }
            for (int t : STORES) {
                multipleOrNot(a, t, false);
            }
        }
    }

    private static void multipleOrNot(int a, int t, boolean isLoad) {
        if (a % WIDTH[t] != 0) {
            stopsWith4(a, t, isLoad);
            return;
        }
        WordMachine m = Words.busy(isLoad ? Words.load(t, 5, 6, 0) : Words.store(t, 5, 6, 0));
        m.put(6, a);
        DUE.is("run(1), " + (isLoad ? "load" : "store") + " T " + t + " at " + a, m.run(1), 0);
        DUE.is("steps()", m.steps(), 2);
    }
}
