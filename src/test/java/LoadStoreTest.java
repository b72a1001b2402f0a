/** Promise 9: OP 0x03 and 0x23, and stop 4. */
public final class LoadStoreTest {
    private static final Due DUE = new Due();

    public static void main(String[] args) {
        loadsOfEveryWidth();
        storesOfEveryWidth();
        distancesHaveTheirSign();
        addressesThatStop();
        addressesAtTheEdge();
        noInstructionComesBeforeTheAddress();
        DUE.end();
    }

    private static void loaded(int t, int a, int want) {
        WordMachine m = Words.machine(Words.load(t, 5, 6, 0));
        int[] bytes = {0x81, 0x72, 0x93, 0xA4, 0x05, 0xF6, 0x7F, 0x00};
        for (int i = 0; i < bytes.length; i++) {
            m.poke(100 + i, bytes[i]);
        }
        m.put(6, 100 + a);
        DUE.is("load T " + t + " from " + a + ": run(1)", m.run(1), 0);
        DUE.is("load T " + t + " from " + a + ": get(5)", m.get(5), want);
        DUE.is("load T " + t + " from " + a + ": pc()", m.pc(), 4);
        for (int i = 0; i < bytes.length; i++) {
            DUE.is("load leaves byte " + i, m.peek(100 + i), bytes[i]);
        }
    }

    private static void loadsOfEveryWidth() {
        loaded(0, 0, 0xFFFFFF81);
        loaded(0, 1, 0x72);
        loaded(0, 2, 0xFFFFFF93);
        loaded(0, 3, 0xFFFFFFA4);
        loaded(4, 0, 0x81);
        loaded(4, 1, 0x72);
        loaded(4, 3, 0xA4);
        loaded(1, 0, 0x7281);
        loaded(1, 2, 0xFFFFA493);
        loaded(1, 4, 0xFFFFF605);
        loaded(5, 0, 0x7281);
        loaded(5, 2, 0xA493);
        loaded(2, 0, 0xA4937281);
        loaded(2, 4, 0x007FF605);
    }

    private static void stored(int t, int a, int width) {
        WordMachine m = Words.machine(Words.store(t, 5, 6, 0));
        for (int i = 0; i < 12; i++) {
            m.poke(100 + i, 0xEE);
        }
        m.put(5, 0x81A27344);
        m.put(6, 100 + a);
        String call = "store T " + t + " to " + a;
        DUE.is(call + ": run(1)", m.run(1), 0);
        DUE.is(call + ": pc()", m.pc(), 4);
        DUE.is(call + ": steps()", m.steps(), 1);
        for (int i = 0; i < 12; i++) {
            boolean inside = i >= a && i < a + width;
            DUE.is(call + ": byte " + i, m.peek(100 + i), inside ? 0x81A27344 >>> 8 * (i - a) & 255 : 0xEE);
        }
        DUE.is(call + ": get(5)", m.get(5), 0x81A27344);
    }

    private static void storesOfEveryWidth() {
        for (int a = 4; a < 8; a++) {
            stored(0, a, 1);
        }
        stored(1, 4, 2);
        stored(1, 6, 2);
        stored(2, 4, 4);
    }

    private static void distancesHaveTheirSign() {
        int[] distances = {0, 4, 31, 32, 33, 2047, -1, -31, -32, -33, -2048, 1365, -1366};
        for (int i : distances) {
            WordMachine m = Words.machine(Words.store(0, 5, 6, i), Words.load(4, 7, 6, i));
            m.put(5, 200);
            m.put(6, 2048);
            DUE.is("run(2) with distance " + i, m.run(2), 0);
            DUE.is("peek with distance " + i, m.peek(2048 + i), 200);
            DUE.is("get(7) with distance " + i, m.get(7), 200);
        }
    }

    private static void stops(int t, int a, boolean loads) {
        WordMachine m = Words.machine(loads ? Words.load(t, 5, 6, 0) : Words.store(t, 5, 6, 0));
        m.put(5, 0x11223344);
        m.put(6, a);
        String call = (loads ? "load" : "store") + " T " + t + " at " + a;
        DUE.is(call + ": run(1)", m.run(1), 4);
        DUE.is(call + ": pc()", m.pc(), 0);
        DUE.is(call + ": steps()", m.steps(), 0);
        DUE.is(call + ": get(5)", m.get(5), 0x11223344);
        for (int i = 0; i < 8; i++) {
            DUE.is(call + ": peek(" + i + ")", m.peek(i), 0);
            DUE.is(call + ": peek(" + (4088 + i) + ")", m.peek(4088 + i), 0);
        }
    }

    private static void addressesThatStop() {
        int[] outside = {-4, -2, -1, 4096, 4098, 4100, Integer.MAX_VALUE, Integer.MAX_VALUE - 3, Integer.MIN_VALUE};
        for (int t = 0; t < 6; t++) {
            if (t == 3) {
                continue;
            }
            for (int a : outside) {
                stops(t, a, true);
                if (t < 3) {
                    stops(t, a, false);
                }
            }
        }
        int[] odd = {1, 3, 5, 4091, 4093, 4095};
        for (int a : odd) {
            stops(1, a, true);
            stops(5, a, true);
            stops(2, a, true);
            stops(1, a, false);
            stops(2, a, false);
        }
        stops(2, 2, true);
        stops(2, 4094, true);
        stops(2, 2, false);
        stops(2, 4094, false);
    }

    private static void addressesAtTheEdge() {
        int[] last = {4095, 4094, 4092};
        for (int t = 0; t < 3; t++) {
            for (int a : new int[] {0, last[t]}) {
                WordMachine m = Words.machine(Words.store(t, 5, 6, -1), Words.load(t, 7, 6, -1));
                m.put(5, 0x41);
                m.put(6, a + 1);
                DUE.is("T " + t + " at " + a + ": run(2)", m.run(2), 0);
                DUE.is("T " + t + " at " + a + ": peek", m.peek(a), 0x41);
                DUE.is("T " + t + " at " + a + ": get(7)", m.get(7), 0x41);
            }
        }
        WordMachine wraps = Words.machine(Words.load(0, 7, 6, 8));
        wraps.put(6, -4);
        wraps.poke(4, 9);
        DUE.is("an address that wraps: run(1)", wraps.run(1), 0);
        DUE.is("an address that wraps: get(7)", wraps.get(7), 9);
        WordMachine lost = Words.machine(Words.load(0, 0, 0, -1));
        DUE.is("a load into register 0 from outside", lost.run(1), 4);
    }

    private static void noInstructionComesBeforeTheAddress() {
        int[] loads = {3, 6, 7};
        for (int t : loads) {
            DUE.is("load T " + t, Words.machine(Words.load(t, 5, 0, -1)).run(1), 3);
        }
        for (int t = 3; t < 8; t++) {
            DUE.is("store T " + t, Words.machine(Words.store(t, 5, 0, -1)).run(1), 3);
        }
    }
}
