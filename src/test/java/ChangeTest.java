/** What each call and each step changes, and that it changes nothing else: all that can be seen is compared. */
public final class ChangeTest {
    private static final int LEAST = Integer.MIN_VALUE;
    private static final Due DUE = new Due();

    public static void main(String[] args) {
        wordChangesTheCodeAlone();
        putChangesOneRegister();
        pokeChangesOneByte();
        questionsChangeNothing();
        codeAndMemoryAreApart();
        whatIsToldComesIntoD();
        jumpsChangeDAndPc();
        storesChangeTheirBytes();
        xAndYAreReadBeforeDIsTold();
        opHasItsBits();
        signIsMeantUnlessSaid();
        DUE.end();
    }

    private static void wordChangesTheCodeAlone() {
        DUE.sentence("One more word of code");
        int[] words = {0, -1, Words.ASK, Words.number(0, 1, 1, 1)};
        for (int w : words) {
            State.onlyThisDone(DUE, "word(" + w + ")", () -> Words.busy(), m -> m.word(w), 2, s -> s.words++);
        }
    }

    private static void putChangesOneRegister() {
        DUE.sentence("Register r becomes v");
        int[] registers = {1, 2, 15, 16, 30, 31};
        int[] values = {0, -1, LEAST, 77};
        for (int r : registers) {
            for (int v : values) {
                State.onlyThisDone(DUE, "put(" + r + ", " + v + ")", () -> Words.busy(), m -> m.put(r, v) ? 1 : 0, 1,
                    s -> s.registers[r] = v);
            }
        }
    }

    private static void pokeChangesOneByte() {
        DUE.sentence("Byte a of the memory becomes v & 255");
        int[] places = {0, 1, 2, 3, 4, 2047, 2048, 4092, 4093, 4094, 4095};
        int[] values = {0, 255, 128, -2, 0x12345678};
        for (int a : places) {
            for (int v : values) {
                State.onlyThisDone(DUE, "poke(" + a + ", " + v + ")", () -> Words.busy(), m -> m.poke(a, v) ? 1 : 0, 1,
                    s -> s.bytes[a] = v & 255);
            }
        }
    }

    private static void questionsChangeNothing() {
        DUE.sentence("Register r; .. Byte a of the memory; .. PC; .. How many steps were done in all");
        State.nothingDone(DUE, "get(0)", () -> Words.busy(), m -> m.get(0), 0);
        State.nothingDone(DUE, "get(1)", () -> Words.busy(), m -> m.get(1), 0x1F2E3D4D);
        State.nothingDone(DUE, "peek(0)", () -> Words.busy(), m -> m.peek(0), 0x71);
        State.nothingDone(DUE, "peek(4095)", () -> Words.busy(), m -> m.peek(4095), 0xF7);
        State.nothingDone(DUE, "pc()", () -> Words.busy(), m -> m.pc(), 4);
        State.nothingDone(DUE, "steps()", () -> Words.busy(), m -> m.steps(), 1);
    }

    private static void codeAndMemoryAreApart() {
        DUE.sentence("CODE has words from address 0 on .. MEMORY has 4096 bytes, addresses 0 .. 4095");
        WordMachine m = Words.machine(Words.store(2, 5, 0, 0), Words.load(2, 7, 0, 4), Words.ASK);
        m.put(5, -1);
        DUE.is("run(2), a store to address 0 and a load from 4", m.run(2), 0);
        DUE.is("get(7), no word of code", m.get(7), 0);
        for (int a = 0; a < 12; a++) {
            m.poke(a, 0xEE);
        }
        DUE.is("run(1), the third word", m.run(1), 1);
        m.go(0);
        DUE.is("run(1), the first word", m.run(1), 0);
        DUE.is("peek(0), stored anew", m.peek(0), 255);
        DUE.is("run(1), the second word", m.run(1), 0);
        DUE.is("get(7), the bytes that were poked", m.get(7), 0xEEEEEEEE);
    }

    private static void tells(int w, int want) {
        State.onlyThisDone(DUE, "run(1) of " + Integer.toHexString(w), () -> withXAndY(w), m -> m.run(1), 0, s -> {
            s.registers[5] = want;
            s.pc = 8;
            s.steps = 2;
        });
    }

    private static WordMachine withXAndY(int w) {
        WordMachine m = Words.busy(w);
        m.put(6, -13);
        m.put(7, 5);
        return m;
    }

    private static void whatIsToldComesIntoD() {
        DUE.sentence("what is told comes into register D");
        int[] numbers = {-8, 0, 1, 0, -10, 0, -9, 1};
        int[] plains = {-8, -416, 1, 0, -10, 0x07FFFFFF, -9, 1};
        int[] products = {-65, -1, -1, 4, -2, 858993456, -3, 3};
        for (int t = 0; t < 8; t++) {
            if (t != 1 && t != 5) {
                tells(Words.number(t, 5, 6, 5), numbers[t]);
            }
            tells(Words.register(0, t, 5, 6, 7), plains[t]);
            tells(Words.register(1, t, 5, 6, 7), products[t]);
        }
        tells(Words.fields(0x13, 5, 1, 6, 4, 0), -208);
        tells(Words.fields(0x13, 5, 5, 6, 4, 0), 0x0FFFFFFF);
        tells(Words.fields(0x13, 5, 5, 6, 1, 32), -7);
        tells(Words.register(32, 0, 5, 6, 7), -18);
        tells(Words.register(32, 5, 5, 6, 7), -1);
        tells(0x12345037 | 5 << 7, 0x12345000);
        tells(0x12345017 | 5 << 7, 0x12345004);
        tells(Words.load(0, 5, 7, 10), -128);
        tells(Words.load(1, 5, 7, -3), 0x7473);
        tells(Words.load(2, 5, 0, 4), 0x78777675);
        tells(Words.load(4, 5, 0, 1), 0x72);
        tells(Words.load(5, 5, 0, 2), 0x7473);
    }

    private static void jumps(int w, int place) {
        State.onlyThisDone(DUE, "run(1) of " + Integer.toHexString(w), () -> withXAndY(w), m -> m.run(1), 0, s -> {
            s.registers[5] = 8;
            s.pc = place;
            s.steps = 2;
        });
    }

    private static void jumpsChangeDAndPc() {
        DUE.sentence("D becomes PC + 4, PC goes on; .. PC becomes x + I .., D becomes the old PC + 4");
        jumps(Words.jump(5, 4), 8);
        jumps(Words.jump(5, 400), 404);
        jumps(Words.jump(5, -4), 0);
        jumps(Words.jumpTo(5, 7, 0), 4);
        jumps(Words.jumpTo(5, 7, 100), 104);
        jumps(Words.jumpTo(5, 6, 1), -12);
    }

    private static void storesChangeTheirBytes() {
        DUE.sentence("OP 0x23: .. by T 0 the lowest byte of y, 1 half, 2 word");
        int[] places = {0, 4, 2044, 4088, 4092};
        for (int word : places) {
            for (int t = 0; t < 3; t++) {
                for (int a = word; a < word + 4; a += 1 << t) {
                    stores(t, a);
                }
            }
        }
    }

    private static void stores(int t, int a) {
        State.onlyThisDone(DUE, "run(1), store T " + t + " to " + a, () -> {
            WordMachine m = Words.busy(Words.store(t, 9, 6, -20));
            m.put(6, a + 20);
            m.put(9, 0x0A1B2C3D);
            return m;
        }, m -> m.run(1), 0, s -> {
            int[] bytes = {0x3D, 0x2C, 0x1B, 0x0A};
            System.arraycopy(bytes, 0, s.bytes, a, 1 << t);
            s.pc = 8;
            s.steps = 2;
        });
    }

    private static void sameRegister(String what, int w, int before, int want, int place) {
        WordMachine m = Words.busy(w);
        m.put(9, before);
        DUE.is("run(1), " + what, m.run(1), 0);
        DUE.is("get(9), " + what, m.get(9), want);
        DUE.is("pc(), " + what, m.pc(), place);
    }

    private static void xAndYAreReadBeforeDIsTold() {
        DUE.sentence("x and y are what registers X and Y have");
        sameRegister("D is X, a sum with a number", Words.number(0, 9, 9, 1), 41, 42, 8);
        sameRegister("D is X, below a number", Words.number(2, 9, 9, 1), 0, 1, 8);
        sameRegister("D is X, moved by the number Y 9", Words.fields(0x13, 9, 1, 9, 9, 0), 3, 1536, 8);
        sameRegister("D, X and Y are one, a sum", Words.register(0, 0, 9, 9, 9), 21, 42, 8);
        sameRegister("D, X and Y are one, a difference", Words.register(32, 0, 9, 9, 9), 21, 0, 8);
        sameRegister("D, X and Y are one, a product", Words.register(1, 0, 9, 9, 9), -9, 81, 8);
        sameRegister("D, X and Y are one, a quotient", Words.register(1, 4, 9, 9, 9), -9, 1, 8);
        sameRegister("D, X and Y are one, a quotient by 0", Words.register(1, 4, 9, 9, 9), 0, -1, 8);
        sameRegister("D is X, a load", Words.load(4, 9, 9, 0), 2, 0x73, 8);
        sameRegister("D is X, a jump", Words.jumpTo(9, 9, 4), 100, 8, 104);
        WordMachine m = Words.machine(Words.store(2, 9, 9, 4));
        m.put(9, 256);
        DUE.is("run(1), X and Y are one, a store", m.run(1), 0);
        DUE.is("peek(261)", m.peek(261), 1);
        DUE.is("peek(260)", m.peek(260), 0);
    }

    // 0x73 with one of its bits another: two of these are OPs that the document names.
    private static void opHasItsBits() {
        DUE.sentence("OP bits 0 .. 6");
        for (int bit = 0; bit < 7; bit++) {
            boolean named = bit == 4 || bit == 6;
            DUE.is("run(1) of 0x73 with another bit " + bit, Words.machine(0x73 ^ 1 << bit).run(1), named ? 0 : 3);
        }
        for (int bit = 7; bit < 32; bit++) {
            WordMachine m = Words.machine(0x37 | 1 << bit);
            DUE.is("run(1) of 0x37, bit " + bit + " is none of OP", m.run(1), 0);
        }
    }

    private static void signIsMeantUnlessSaid() {
        DUE.sentence("without sign is said");
        int[][] withAndWithout = {
            {Words.number(2, 5, 6, 5), 1, Words.number(3, 5, 6, 5), 0},
            {Words.register(0, 2, 5, 6, 7), 1, Words.register(0, 3, 5, 6, 7), 0},
            {Words.register(1, 1, 5, 6, 7), -1, Words.register(1, 3, 5, 6, 7), 4},
            {Words.register(1, 4, 5, 6, 7), -2, Words.register(1, 5, 5, 6, 7), 858993456},
            {Words.register(1, 6, 5, 6, 7), -3, Words.register(1, 7, 5, 6, 7), 3},
            {Words.load(0, 5, 0, 15), -128, Words.load(4, 5, 0, 15), 128},
            {Words.load(1, 5, 0, 14), -32641, Words.load(5, 5, 0, 14), 32895},
        };
        for (int[] c : withAndWithout) {
            DUE.is(Integer.toHexString(c[0]) + " with sign", told(c[0]), c[1]);
            DUE.is(Integer.toHexString(c[2]) + " without sign", told(c[2]), c[3]);
        }
        DUE.is("branch T 4, x below y with sign", place(Words.branch(4, 6, 7, 40)), 44);
        DUE.is("branch T 6, x not below y without", place(Words.branch(6, 6, 7, 40)), 8);
        DUE.is("branch T 5, x not below y with sign", place(Words.branch(5, 7, 6, 40)), 44);
        DUE.is("branch T 7, x below y without", place(Words.branch(7, 7, 6, 40)), 8);
    }

    private static int told(int w) {
        WordMachine m = withXAndY(w);
        m.run(1);
        return m.get(5);
    }

    private static int place(int w) {
        WordMachine m = withXAndY(w);
        m.run(1);
        return m.pc();
    }
}
