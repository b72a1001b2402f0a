/** The edges that the first sentences of "Terms" name: code, PC, registers, memory and the fields of a word. */
public final class StateEdgeTest {
    private static final int LEAST = Integer.MIN_VALUE;
    private static final int MOST = Integer.MAX_VALUE;
    private static final Due DUE = new Due();

    public static void main(String[] args) {
        codeStartsAtAddress0();
        codeHasAtMost1024Words();
        pcIs0AtFirst();
        pcIsAMultipleOf4();
        registersHaveInts();
        registersAre0To31();
        register0IsAlways0();
        memoryHas4096Bytes();
        theLowestByteComesFirst();
        memoryIsAll0AtFirst();
        fieldsHaveTheirBits();
        DUE.end();
    }

    private static void codeStartsAtAddress0() {
        DUE.sentence("CODE has words from address 0 on");
        WordMachine m = Words.machine(Words.number(0, 1, 0, 11), Words.number(0, 1, 0, 22), Words.number(0, 1, 0, 33));
        int[] due = {11, 22, 33};
        for (int k = 2; k >= 0; k--) {
            m.go(4 * k);
            DUE.is("run(1) at " + 4 * k, m.run(1), 0);
            DUE.is("get(1)", m.get(1), due[k]);
        }
        m.go(-4);
        DUE.is("run(1) at -4", m.run(1), 2);
        m.go(12);
        DUE.is("run(1) at 12", m.run(1), 2);
    }

    // 1024 words take more calls than the 512 of which answers are promised; there is no shorter way to them.
    private static void codeHasAtMost1024Words() {
        DUE.sentence("CODE has words .., at most 1024");
        WordMachine m = new WordMachine();
        for (int k = 1; k <= 1024; k++) {
            DUE.is("word, number " + k, m.word(Words.number(0, 1, 0, k)), k);
        }
        for (int k = 1025; k <= 1027; k++) {
            DUE.is("word, number " + k, m.word(Words.number(0, 1, 0, -5)), -1);
        }
        int[] words = {1, 2, 512, 1023, 1024};
        for (int k : words) {
            m.go(4 * k - 4);
            DUE.is("run(1) of word " + k, m.run(1), 0);
            DUE.is("get(1) of word " + k, m.get(1), k);
        }
        DUE.is("pc() behind the last", m.pc(), 4096);
        DUE.is("run(1) behind the last", m.run(1), 2);
    }

    private static void pcIs0AtFirst() {
        DUE.sentence("PC is .. 0 at first");
        DUE.is("pc() of a new object", new WordMachine().pc(), 0);
        WordMachine m = Words.machine(Words.ASK, Words.jump(0, 0));
        DUE.is("pc() with code", m.pc(), 0);
        DUE.is("run(1), the first word asks", m.run(1), 1);
    }

    private static void pcIsAMultipleOf4() {
        DUE.sentence("PC is a multiple of 4");
        for (int a = -8; a <= 8; a++) {
            WordMachine m = Words.busy(Words.ASK);
            boolean multiple = a == -8 || a == -4 || a == 0 || a == 4 || a == 8;
            DUE.is("go(" + a + ")", m.go(a), multiple);
            DUE.is("pc() behind go(" + a + ")", m.pc(), multiple ? a : 4);
        }
    }

    private static void registersHaveInts() {
        DUE.sentence("REGISTERS 0 .. 31 have ints");
        int[] values = {LEAST, LEAST + 1, -65536, -1, 0, 1, 65535, 65536, MOST - 1, MOST};
        for (int v : values) {
            WordMachine m = Words.machine(Words.number(0, 30, 31, 0));
            DUE.is("put(31, " + v + ")", m.put(31, v), true);
            DUE.is("get(31)", m.get(31), v);
            DUE.is("run(1), register 30 becomes register 31", m.run(1), 0);
            DUE.is("get(30)", m.get(30), v);
        }
    }

    private static void registersAre0To31() {
        DUE.sentence("REGISTERS 0 .. 31");
        int[] none = {-1, 32};
        for (int r : none) {
            State.nothingDone(DUE, "put(" + r + ", 9)", () -> Words.busy(), m -> m.put(r, 9) ? 1 : 0, 0);
            State.nothingDone(DUE, "get(" + r + ")", () -> Words.busy(), m -> m.get(r), 0);
        }
        for (int r = 1; r < 32; r++) {
            WordMachine m = new WordMachine();
            DUE.is("put(" + r + ", 9)", m.put(r, 9), true);
            for (int other = 0; other < 32; other++) {
                DUE.is("get(" + other + ") behind put(" + r + ", 9)", m.get(other), other == r ? 9 : 0);
            }
        }
    }

    private static void register0IsAlways0() {
        DUE.sentence("register 0 is always 0");
        State.nothingDone(DUE, "put(0, -7)", () -> Words.busy(), m -> m.put(0, -7) ? 1 : 0, 1);
        int[] words = {
            Words.number(0, 0, 1, 5), Words.fields(0x13, 0, 1, 1, 3, 0), Words.register(0, 0, 0, 1, 2),
            Words.register(32, 0, 0, 1, 2), Words.register(1, 0, 0, 1, 2), Words.register(1, 4, 0, 1, 0),
            0xFFFFF037, 0xFFFFF017, Words.load(2, 0, 0, 0), Words.jump(0, 4), Words.jumpTo(0, 0, 8),
        };
        for (int w : words) {
            String name = "run(1) of " + Integer.toHexString(w) + " with D 0";
            State.onlyPcAndSteps(DUE, name, () -> Words.busy(w), m -> m.run(1), 0, 4, 1);
        }
        WordMachine m = Words.machine(Words.number(0, 0, 0, 5), Words.register(0, 0, 1, 0, 2),
            Words.register(0, 0, 3, 2, 0));
        m.put(0, 100);
        m.put(2, 7);
        DUE.is("run(3)", m.run(3), 0);
        DUE.is("get(1), register 0 as x", m.get(1), 7);
        DUE.is("get(3), register 0 as y", m.get(3), 7);
    }

    private static void memoryHas4096Bytes() {
        DUE.sentence("MEMORY has 4096 bytes, addresses 0 .. 4095");
        int[] bytes = {0, 1, 4094, 4095};
        for (int a : bytes) {
            WordMachine m = Words.machine(Words.load(4, 1, 6, 0));
            m.put(6, a);
            DUE.is("poke(" + a + ", 200)", m.poke(a, 200), true);
            DUE.is("peek(" + a + ")", m.peek(a), 200);
            DUE.is("run(1), a load from " + a, m.run(1), 0);
            DUE.is("get(1)", m.get(1), 200);
        }
        int[] none = {-1, 4096};
        for (int a : none) {
            State.nothingDone(DUE, "poke(" + a + ", 200)", () -> Words.busy(), m -> m.poke(a, 200) ? 1 : 0, 0);
            State.nothingDone(DUE, "peek(" + a + ")", () -> Words.busy(), m -> m.peek(a), -1);
        }
    }

    private static void theLowestByteComesFirst() {
        DUE.sentence("the lowest byte of a number first");
        int[] due = {0x0D, 0xF0, 0xAD, 0x8B};
        int[] places = {0, 2048, 4092};
        for (int a : places) {
            WordMachine m = Words.machine(Words.store(2, 5, 6, 0), Words.load(2, 7, 6, 0), Words.load(5, 8, 6, 0),
                Words.load(5, 9, 6, 2), Words.store(1, 5, 6, 2));
            m.put(5, 0x8BADF00D);
            m.put(6, a);
            DUE.is("run(4) at " + a, m.run(4), 0);
            for (int k = 0; k < 4; k++) {
                DUE.is("peek(" + (a + k) + ")", m.peek(a + k), due[k]);
            }
            DUE.is("get(7), the word", m.get(7), 0x8BADF00D);
            DUE.is("get(8), its lower half", m.get(8), 0xF00D);
            DUE.is("get(9), its upper half", m.get(9), 0x8BAD);
            DUE.is("run(1), a half to " + (a + 2), m.run(1), 0);
            for (int k = 0; k < 4; k++) {
                DUE.is("peek(" + (a + k) + ")", m.peek(a + k), due[k % 2]);
            }
        }
    }

    private static void memoryIsAll0AtFirst() {
        DUE.sentence("all 0 at first");
        for (int from = 0; from < 4096; from += 512) {
            WordMachine m = new WordMachine();
            for (int a = from; a < from + 512; a++) {
                DUE.is("peek(" + a + ")", m.peek(a), 0);
            }
        }
        WordMachine m = Words.machine(Words.load(2, 5, 0, 0), Words.load(2, 6, 7, -4));
        m.put(5, 1);
        m.put(6, 1);
        m.put(7, 4096);
        DUE.is("run(2)", m.run(2), 0);
        DUE.is("get(5), the first word", m.get(5), 0);
        DUE.is("get(6), the last word", m.get(6), 0);
    }

    // One bit at a time: each register that has one bit in its number, as D, as X and as Y; then all bits.
    private static void fieldsHaveTheirBits() {
        DUE.sentence("D bits 7 .. 11; .. X bits 15 .. 19; Y bits 20 .. 24");
        int[] registers = {1, 2, 4, 8, 16, 31};
        for (int r : registers) {
            WordMachine m = Words.machine(0x33 | r << 7, 0x33 | 3 << 7 | r << 15, 0x33 | 5 << 7 | r << 20);
            m.put(r, -1);
            DUE.is("run(1) with D " + r, m.run(1), 0);
            DUE.is("get(" + r + ")", m.get(r), 0);
            m.put(r, 1000 + r);
            DUE.is("run(2) with X and Y " + r, m.run(2), 0);
            DUE.is("get(3), register X", m.get(3), 1000 + r);
            DUE.is("get(5), register Y", m.get(5), 1000 + r);
        }
        DUE.sentence("T bits 12 .. 14; .. S bits 25 .. 31");
        int[][] bits = {{1 << 12, 3 << 2}, {1 << 13, 0}, {1 << 14, 3 ^ 2}, {1 << 25, 6}, {1 << 30, 1}};
        for (int[] bit : bits) {
            WordMachine m = Words.machine(0x33 | 1 << 7 | 2 << 15 | 3 << 20 | bit[0]);
            m.put(2, 3);
            m.put(3, 2);
            DUE.is("run(1) with " + Integer.toHexString(bit[0]), m.run(1), 0);
            DUE.is("get(1) with " + Integer.toHexString(bit[0]), m.get(1), bit[1]);
        }
    }
}
