/** The edges that the sections "Promise 1" to "Promise 10" name: refused calls, and the least and the most. */
public final class PromiseEdgeTest {
    private static final int LEAST = Integer.MIN_VALUE;
    private static final int MOST = Integer.MAX_VALUE;
    private static final Due DUE = new Due();

    public static void main(String[] args) {
        aNewObjectHasNoCodeAndAll0();
        wordTellsHowMany();
        wordTellsMinus1At1024();
        putRefusesWhatIsNone();
        putLeaves0At0();
        getTells0IfThereIsNone();
        pokeTakesTheLowest8Bits();
        pokeRefusesWhatIsNone();
        peekTellsMinus1IfThereIsNone();
        goTakesMultiplesOf4();
        goRefusesOthers();
        pcTellsPc();
        runRefusesOtherNumbers();
        runOf0();
        runOf1000();
        runTellsWhyItStopped();
        stepsCountInAll();
        aStepThatAsksCounts();
        callsUpTo512();
        DUE.end();
    }

    private static void aNewObjectHasNoCodeAndAll0() {
        DUE.sentence("No code, all 0");
        WordMachine used = Words.busy(Words.ASK);
        used.run(1);
        WordMachine m = new WordMachine();
        DUE.is("pc()", m.pc(), 0);
        DUE.is("steps()", m.steps(), 0);
        DUE.is("run(1)", m.run(1), 2);
        for (int r = 0; r < 32; r++) {
            DUE.is("get(" + r + ")", m.get(r), 0);
        }
        DUE.is("peek(0)", m.peek(0), 0);
        DUE.is("peek(4095)", m.peek(4095), 0);
        DUE.is("word(0)", m.word(0), 1);
        State.nothingDone(DUE, "another new object", WordMachine::new, other -> Words.busy(Words.ASK).run(1), 1);
    }

    private static void wordTellsHowMany() {
        DUE.sentence("One more word of code: how many");
        int[] words = {0, -1, LEAST, MOST, Words.ASK};
        WordMachine m = new WordMachine();
        for (int k = 0; k < words.length; k++) {
            DUE.is("word(" + words[k] + ")", m.word(words[k]), k + 1);
        }
        DUE.is("pc()", m.pc(), 0);
        DUE.is("steps()", m.steps(), 0);
        m.go(16);
        DUE.is("run(1) of the last word", m.run(1), 1);
        DUE.is("word(0) behind a run", m.word(0), 6);
    }

    // 1024 words take more calls than the 512 of which answers are promised; there is no shorter way to them.
    private static void wordTellsMinus1At1024() {
        DUE.sentence("-1 if there are 1024");
        WordMachine m = new WordMachine();
        for (int k = 1; k <= 1023; k++) {
            m.word(Words.jump(0, 4));
        }
        DUE.is("word, the 1024th", m.word(Words.ASK), 1024);
        for (int k = 0; k < 3; k++) {
            DUE.is("word, one more", m.word(0), -1);
        }
        DUE.is("run(1000)", m.run(1000), 0);
        DUE.is("run(1000), the last word asks", m.run(1000), 1);
        DUE.is("pc()", m.pc(), 4096);
        DUE.is("steps()", m.steps(), 1024);
        DUE.is("run(1) behind it", m.run(1), 2);
    }

    private static void putRefusesWhatIsNone() {
        DUE.sentence("Register r becomes v ..; false if there is none");
        int[] none = {-1, -31, -32, 32, 33, 64, 256, LEAST, LEAST + 5, MOST};
        for (int r : none) {
            State.nothingDone(DUE, "put(" + r + ", 5)", () -> Words.busy(), m -> m.put(r, 5) ? 1 : 0, 0);
        }
        WordMachine m = new WordMachine();
        DUE.is("put(1, 5)", m.put(1, 5), true);
        DUE.is("put(31, 6)", m.put(31, 6), true);
        DUE.is("get(1)", m.get(1), 5);
        DUE.is("get(31)", m.get(31), 6);
    }

    private static void putLeaves0At0() {
        DUE.sentence("(0 stays 0)");
        int[] values = {1, -1, LEAST, MOST, 0};
        for (int v : values) {
            State.nothingDone(DUE, "put(0, " + v + ")", () -> Words.busy(), m -> m.put(0, v) ? 1 : 0, 1);
        }
    }

    private static void getTells0IfThereIsNone() {
        DUE.sentence("Register r; 0 if there is none");
        int[] none = {-1, -31, -32, 32, 33, 63, 64, LEAST, LEAST + 5, MOST};
        WordMachine m = Words.busy();
        for (int r : none) {
            DUE.is("get(" + r + ")", m.get(r), 0);
        }
        DUE.is("get(1)", m.get(1), 0x1F2E3D4D);
        DUE.is("get(31)", m.get(31), 31 * 0x1F2E3D4C + 1);
    }

    private static void pokeTakesTheLowest8Bits() {
        DUE.sentence("Byte a of the memory becomes v & 255");
        int[][] values = {{0, 0}, {1, 1}, {127, 127}, {128, 128}, {255, 255}, {256, 0}, {257, 1}, {511, 255}, {-1, 255},
            {-128, 128}, {-255, 1}, {-256, 0}, {-257, 255}, {MOST, 255}, {LEAST, 0}};
        int[] places = {0, 1, 2, 3, 4092, 4093, 4094, 4095};
        for (int[] v : values) {
            WordMachine m = Words.busy();
            for (int a : places) {
                int before = m.peek(a ^ 1);
                DUE.is("poke(" + a + ", " + v[0] + ")", m.poke(a, v[0]), true);
                DUE.is("peek(" + a + ") behind poke(" + a + ", " + v[0] + ")", m.peek(a), v[1]);
                DUE.is("peek(" + (a ^ 1) + ") behind poke(" + a + ", " + v[0] + ")", m.peek(a ^ 1), before);
            }
        }
    }

    private static void pokeRefusesWhatIsNone() {
        DUE.sentence("Byte a of the memory becomes ..; false if there is none");
        int[] none = {-1, -2, -4, -4096, 4096, 4097, 8191, 65536, LEAST, MOST};
        for (int a : none) {
            State.nothingDone(DUE, "poke(" + a + ", 5)", () -> Words.busy(), m -> m.poke(a, 5) ? 1 : 0, 0);
        }
    }

    private static void peekTellsMinus1IfThereIsNone() {
        DUE.sentence("Byte a of the memory; -1 if there is none");
        int[] none = {-1, -2, -4, -4096, 4096, 4097, 8191, 65536, LEAST, MOST};
        WordMachine m = Words.busy();
        for (int a : none) {
            DUE.is("peek(" + a + ")", m.peek(a), -1);
        }
        m.poke(0, 255);
        m.poke(4095, 255);
        DUE.is("peek(0), a byte is no number with sign", m.peek(0), 255);
        DUE.is("peek(4095), a byte is no number with sign", m.peek(4095), 255);
    }

    private static void goTakesMultiplesOf4() {
        DUE.sentence("The PC becomes a");
        int[] places = {0, 4, 8, 4092, 4096, 4100, 65536, -4, -8, LEAST, LEAST + 4, MOST - 3};
        for (int a : places) {
            State.onlyPcAndSteps(DUE, "go(" + a + ")", () -> Words.busy(), m -> m.go(a) ? 1 : 0, 1, a - 4, 0);
        }
    }

    private static void goRefusesOthers() {
        DUE.sentence("false, and nothing is done, if a is no multiple of 4");
        int[] places = {1, 2, 3, 5, 6, 7, 4093, 4094, 4095, 4097, -1, -2, -3, -5, LEAST + 1, LEAST + 2, LEAST + 3, MOST,
            MOST - 1, MOST - 2};
        for (int a : places) {
            State.nothingDone(DUE, "go(" + a + ")", () -> Words.busy(), m -> m.go(a) ? 1 : 0, 0);
        }
    }

    private static void pcTellsPc() {
        DUE.sentence("PC");
        State.nothingDone(DUE, "pc()", () -> Words.busy(), m -> m.pc(), 4);
        WordMachine m = Words.machine(Words.jump(0, -1048576), Words.jumpTo(0, 6, 0));
        m.run(1);
        DUE.is("pc() below 0", m.pc(), -1048576);
        m.put(6, MOST);
        m.go(4);
        m.run(1);
        DUE.is("pc() at the most", m.pc(), MOST - 1);
    }

    private static void runRefusesOtherNumbers() {
        DUE.sentence("-1 if n is another number");
        int[] numbers = {-1, -2, -1000, 1001, 1002, 65536, MOST, LEAST};
        for (int n : numbers) {
            State.nothingDone(DUE, "run(" + n + ")", () -> Words.busy(Words.number(0, 1, 1, 1), Words.jump(0, -4)),
                m -> m.run(n), -1);
            State.nothingDone(DUE, "run(" + n + ") that would stop", () -> Words.busy(Words.ASK), m -> m.run(n), -1);
            State.nothingDone(DUE, "run(" + n + ") without code", WordMachine::new, m -> m.run(n), -1);
        }
    }

    private static void runOf0() {
        DUE.sentence("At most n steps (0 .. 1000) are done: n 0");
        int[] words = {Words.number(0, 1, 1, 1), Words.ASK, 0, Words.load(2, 5, 0, 2)};
        for (int w : words) {
            String name = "run(0) at " + Integer.toHexString(w);
            State.nothingDone(DUE, name, () -> Words.busy(w), m -> m.run(0), 0);
        }
        State.nothingDone(DUE, "run(0) without code", WordMachine::new, m -> m.run(0), 0);
    }

    private static void runOf1000() {
        DUE.sentence("At most n steps (0 .. 1000) are done: n 1, 999, 1000");
        int[] numbers = {1, 2, 999, 1000};
        for (int n : numbers) {
            WordMachine m = Words.machine(Words.number(0, 1, 1, 1), Words.jump(0, -4));
            DUE.is("run(" + n + ")", m.run(n), 0);
            DUE.is("steps() behind run(" + n + ")", m.steps(), n);
            DUE.is("get(1) behind run(" + n + ")", m.get(1), (n + 1) / 2);
            DUE.is("pc() behind run(" + n + ")", m.pc(), n % 2 * 4);
        }
    }

    /** A machine that does 999 steps, and whose step 1000 is the last word. */
    private static WordMachine lastAtStep1000(int... last) {
        WordMachine m = Words.machine(Words.number(0, 1, 1, 1), Words.branch(1, 1, 2, -4), Words.jump(0, 4));
        for (int w : last) {
            m.word(w);
        }
        m.put(2, 499);
        return m;
    }

    private static void runTellsWhyItStopped() {
        DUE.sentence("0 all of them, else why it stopped (1 .. 4)");
        int[][] lasts = {{Words.number(0, 3, 0, 1)}, {Words.ASK}, {}, {0}, {Words.load(2, 5, 0, 2)}};
        for (int reason = 0; reason < lasts.length; reason++) {
            int[] last = lasts[reason];
            WordMachine m = lastAtStep1000(last);
            DUE.is("run(999) for reason " + reason, m.run(999), 0);
            DUE.is("pc() behind run(999)", m.pc(), 12);
            DUE.is("run(1) for reason " + reason, m.run(1), reason);
            DUE.is("steps() for reason " + reason, m.steps(), reason < 2 ? 1000 : 999);
            WordMachine again = lastAtStep1000(last);
            DUE.is("run(1000) for reason " + reason, again.run(1000), reason);
            DUE.is("steps() for reason " + reason, again.steps(), reason < 2 ? 1000 : 999);
            DUE.is("pc() for reason " + reason, again.pc(), reason < 2 ? 16 : 12);
        }
    }

    private static void stepsCountInAll() {
        DUE.sentence("How many steps were done in all");
        WordMachine m = Words.machine(Words.jump(0, 0), 0);
        DUE.is("steps() before a run", m.steps(), 0);
        m.run(1000);
        m.run(1001);
        m.run(-1);
        m.run(0);
        DUE.is("steps() behind run(1000)", m.steps(), 1000);
        m.go(4);
        m.run(7);
        m.go(8);
        m.run(7);
        DUE.is("steps() behind stops 3 and 2", m.steps(), 1000);
        m.go(0);
        m.run(1);
        DUE.is("steps() behind go(0) and run(1)", m.steps(), 1001);
        State.nothingDone(DUE, "steps()", () -> Words.busy(), other -> other.steps(), 1);
    }

    private static void aStepThatAsksCounts() {
        DUE.sentence("(one that asks counts)");
        WordMachine m = Words.machine(Words.ASK, Words.ASK, Words.number(0, 1, 1, 1));
        DUE.is("run(1)", m.run(1), 1);
        DUE.is("steps()", m.steps(), 1);
        DUE.is("run(1000)", m.run(1000), 1);
        DUE.is("steps()", m.steps(), 2);
        DUE.is("run(1000)", m.run(1000), 2);
        DUE.is("steps()", m.steps(), 3);
    }

    private static void callsUpTo512() {
        DUE.sentence("An object is used for at most 512 calls");
        WordMachine m = Words.machine(Words.number(0, 1, 1, 1), Words.jump(0, -4));
        for (int k = 0; k < 507; k++) {
            DUE.is("run(1000), number " + k, m.run(1000), 0);
        }
        DUE.is("steps()", m.steps(), 507000);
        DUE.is("get(1)", m.get(1), 253500);
        DUE.is("pc(), the 512th call", m.pc(), 0);
    }
}
